/-! THE REFERENCE on a fresh object: its values -/
theorem v_fill_eq (a : Int32) : (if 500 + a < 5000 then 500 + a else 5000) = v_fill a := by
  unfold v_fill
  by_cases h1 : 500 + a < 5000
  · rw [if_pos h1, if_neg (fun z => by have a1 := Int32.lt_iff_toInt_lt.mp h1; have a2 := Int32.lt_iff_toInt_lt.mp z; omega)]
  · rw [if_neg h1]
    by_cases h2 : 5000 < 500 + a
    · rw [if_pos h2]
    · rw [if_neg h2]; exact Int32.le_antisymm (Int32.not_lt.mp h1) (Int32.not_lt.mp h2)
set_option maxHeartbeats 100000 in
set_option maxRecDepth 100000 in
theorem r_fill {d n : Nat} {v1 : Int32} {K : Nat → mj_K} {f : Nat → Nat → Int32} {g : Nat → Nat → Option Nat} (kX : K 145 = (2, 9, 0)) (gX : g 145 1 = some 146) (kY : K 146 = (2, 8, 0)) (gL : g 146 0 = some 147) (gR : g 146 1 = some 148) (kL : K 147 = (2, 1, 0)) (kR : K 148 = (2, 1, 0)) (fL : f 147 2 = 0) (fR : f 148 2 = 0) (fY : f 146 = v0Y) (h1 : ¬ v1 < 1) (h2 : v1 ≤ 5000) : mj_Ri m_X7_fill (d + 3) 0 0 [.ref 145, .int v1] (n, K, f, g) (fun r h1 => r = v_fill v1 ∧ ∃ n1 K1 f1 g1, h1 = (n1, K1, f1, g1) ∧ K1 145 = (2, 9, 0) ∧ f1 145 0 = 0 ∧ K1 149 = K 149 ∧ f1 149 = f 149 ∧ K1 0 = K 0) := by
  refine mj_entry (by refine ⟨by decide +kernel, by decide, rfl, Nat.le_of_ble_eq_true rfl⟩) ?_
  show mj_W _ _ _ _ _ 0 [.ref 145, .int v1] [] _
  refine mj_aload_n (i := 0) (q := 1) dX7_fill_0 rfl rfl rfl ?_
  refine mj_num1 (v := 0) (q := 2) rfl dX7_fill_1 rfl ?_
  refine mj_putf (x := 0) (q := 5) dX7_fill_2 fl_X7_23 rfl rfl (by first | assumption | simp [mj_up, mj_upl, mj_row, *]) rfl rfl rfl ?_
  refine mj_iload_n (i := 1) (q := 6) dX7_fill_5 rfl rfl rfl ?_
  refine mj_num1 (v := 1) (q := 7) rfl dX7_fill_6 rfl ?_
  refine mj_num3 (v := 5000) (q := 10) (by decide) dX7_fill_7 rfl ?_
  refine mj_kS3i (K := m_X7_is) (q := 13) (mc1 := 0) (ms1 := 0) (mc := 0) (ms := 0) dX7_fill_10 ln_X7_78 ok_X7_is (Nat.le_of_ble_eq_true rfl) (by decide) rfl rfl rfl (s_is1 h1 h2) (fun r_10 h1 hq => ?_)
  obtain ⟨rfl, rfl⟩ := hq
  refine mj_if_ne (tgt := 22) (q := 16) dX7_fill_13 (by decide) rfl (fun c_13 => ?_) (fun c_13 => absurd c_13 (by decide))
  refine mj_aload_n (i := 0) (q := 23) dX7_fill_22 rfl rfl rfl ?_
  refine mj_getr (x := 0) (q := 26) dX7_fill_23 fl_X7_12 rfl rfl (by first | assumption | simp [mj_up, mj_upl, mj_row, *]) (by first | assumption | simp [mj_up, mj_upl, mj_row, *]) ?_
  refine mj_num3 (v := 5000) (q := 29) (by decide) dX7_fill_26 rfl ?_
  refine mj_aload_n (i := 0) (q := 30) dX7_fill_29 rfl rfl rfl ?_
  refine mj_getr (x := 0) (q := 33) dX7_fill_30 fl_X7_12 rfl rfl (by first | assumption | simp [mj_up, mj_upl, mj_row, *]) (by first | assumption | simp [mj_up, mj_upl, mj_row, *]) ?_
  refine mj_getfvN (x := 0) (v := 500) (q := 36) dX7_fill_33 fn_X7_113 rfl rfl (by first | assumption | simp [mj_up, mj_upl, mj_row, *]) (by rw [mj_upr (by decide), fY]; rfl) ?_
  refine mj_iload_n (i := 1) (q := 37) dX7_fill_36 rfl rfl rfl ?_
  refine mj_iadd (q := 38) dX7_fill_37 rfl ?_
  refine mj_mmin (q := 41) dX7_fill_38 ln_X7_38 (Nat.le_of_ble_eq_true rfl) rfl ?_
  refine mj_putfN (x := 0) (q := 44) dX7_fill_41 fn_X7_113 rfl rfl (by first | assumption | simp [mj_up, mj_upl, mj_row, *]) rfl rfl rfl ?_
  refine mj_aload_n (i := 0) (q := 45) dX7_fill_44 rfl rfl rfl ?_
  refine mj_getr (x := 0) (q := 48) dX7_fill_45 fl_X7_12 rfl rfl (by first | assumption | simp [mj_up, mj_upl, mj_row, *]) (by first | assumption | simp [mj_up, mj_upl, mj_row, *]) ?_
  refine mj_getfN (x := 0) (q := 51) dX7_fill_48 fn_X7_113 rfl rfl (by first | assumption | simp [mj_up, mj_upl, mj_row, *]) ?_
  exact mj_ireturn dX7_fill_51 ⟨_, rfl, rfl⟩ ⟨_, rfl, ⟨by rw [mj_ups]; exact v_fill_eq v1, _, _, _, _, rfl, kX, by rw [mj_upr (by decide), mj_ups], rfl, by (repeat rw [mj_upr (by decide)]), rfl⟩⟩
set_option maxHeartbeats 100000 in
set_option maxRecDepth 100000 in
theorem r_crowd {d n : Nat} {v1 : Int32} {K : Nat → mj_K} {f : Nat → Nat → Int32} {g : Nat → Nat → Option Nat} (kX : K 145 = (2, 9, 0)) (gX : g 145 1 = some 146) (kY : K 146 = (2, 8, 0)) (gL : g 146 0 = some 147) (gR : g 146 1 = some 148) (kL : K 147 = (2, 1, 0)) (kR : K 148 = (2, 1, 0)) (fL : f 147 2 = 0) (fR : f 148 2 = 0) (fY : f 146 = v0Y) (h1 : ¬ v1 < 0) (h2 : v1 ≤ 5000) : mj_Ri m_X7_crowd (d + 3) 0 0 [.ref 145, .int v1] (n, K, f, g) (fun r h1 => r = 0 ∧ ∃ n1 K1 f1 g1, h1 = (n1, K1, f1, g1) ∧ K1 145 = (2, 9, 0) ∧ f1 145 0 = 0 ∧ K1 149 = K 149 ∧ f1 149 = f 149 ∧ K1 0 = K 0) := by
  refine mj_entry (by refine ⟨by decide +kernel, by decide, rfl, Nat.le_of_ble_eq_true rfl⟩) ?_
  show mj_W _ _ _ _ _ 0 [.ref 145, .int v1, .null] [] _
  refine mj_aload_n (i := 0) (q := 1) dX7_crowd_0 rfl rfl rfl ?_
  refine mj_num1 (v := 0) (q := 2) rfl dX7_crowd_1 rfl ?_
  refine mj_putf (x := 0) (q := 5) dX7_crowd_2 fl_X7_23 rfl rfl (by first | assumption | simp [mj_up, mj_upl, mj_row, *]) rfl rfl rfl ?_
  refine mj_iload_n (i := 1) (q := 6) dX7_crowd_5 rfl rfl rfl ?_
  refine mj_num1 (v := 0) (q := 7) rfl dX7_crowd_6 rfl ?_
  refine mj_num3 (v := 5000) (q := 10) (by decide) dX7_crowd_7 rfl ?_
  refine mj_kS3i (K := m_X7_is) (q := 13) (mc1 := 0) (ms1 := 0) (mc := 0) (ms := 0) dX7_crowd_10 ln_X7_78 ok_X7_is (Nat.le_of_ble_eq_true rfl) (by decide) rfl rfl rfl (s_is1 h1 h2) (fun r_10 h1 hq => ?_)
  obtain ⟨rfl, rfl⟩ := hq
  refine mj_if_ne (tgt := 22) (q := 16) dX7_crowd_13 (by decide) rfl (fun c_13 => ?_) (fun c_13 => absurd c_13 (by decide))
  refine mj_aload_n (i := 0) (q := 23) dX7_crowd_22 rfl rfl rfl ?_
  refine mj_getr (x := 0) (q := 26) dX7_crowd_23 fl_X7_12 rfl rfl (by first | assumption | simp [mj_up, mj_upl, mj_row, *]) (by first | assumption | simp [mj_up, mj_upl, mj_row, *]) ?_
  refine mj_getfvN (x := 0) (v := 0) (q := 29) dX7_crowd_26 fn_X7_116 rfl rfl (by first | assumption | simp [mj_up, mj_upl, mj_row, *]) (by rw [mj_upr (by decide), fY]; rfl) ?_
  refine mj_istore_n (i := 2) (q := 30) dX7_crowd_29 rfl rfl (by decide) rfl ?_
  dsimp only [List.set]
  refine mj_aload_n (i := 0) (q := 31) dX7_crowd_30 rfl rfl rfl ?_
  refine mj_getr (x := 0) (q := 34) dX7_crowd_31 fl_X7_12 rfl rfl (by first | assumption | simp [mj_up, mj_upl, mj_row, *]) (by first | assumption | simp [mj_up, mj_upl, mj_row, *]) ?_
  refine mj_iload_n (i := 1) (q := 35) dX7_crowd_34 rfl rfl rfl ?_
  refine mj_putfN (x := 0) (q := 38) dX7_crowd_35 fn_X7_116 rfl rfl (by first | assumption | simp [mj_up, mj_upl, mj_row, *]) rfl rfl rfl ?_
  refine mj_iload_n (i := 2) (q := 39) dX7_crowd_38 rfl rfl rfl ?_
  exact mj_ireturn dX7_crowd_39 ⟨_, rfl, rfl⟩ ⟨_, rfl, ⟨rfl, _, _, _, _, rfl, kX, by rw [mj_upr (by decide), mj_ups], rfl, by (repeat rw [mj_upr (by decide)]), rfl⟩⟩
set_option maxHeartbeats 100000 in
set_option maxRecDepth 100000 in
theorem r_lift {d n : Nat} {v1 v2 : Int32} {K : Nat → mj_K} {f : Nat → Nat → Int32} {g : Nat → Nat → Option Nat} (kX : K 145 = (2, 9, 0)) (gX : g 145 1 = some 146) (kY : K 146 = (2, 8, 0)) (gL : g 146 0 = some 147) (gR : g 146 1 = some 148) (kL : K 147 = (2, 1, 0)) (kR : K 148 = (2, 1, 0)) (fL : f 147 2 = 0) (fR : f 148 2 = 0) (gL1 : g 147 1 = some 1) (hn : 149 < n) (h1 : ¬ v1 < 10) (h2 : v1 ≤ 999) (h3 : ¬ v2 < 3) (h4 : v2 ≤ 9) : mj_Ri m_X7_lift (d + 6) 2 15 [.ref 145, .int v1, .int v2] (n, K, f, g) (fun r h1 => r = 0 ∧ ∃ n1 K1 f1 g1, h1 = (n1, K1, f1, g1) ∧ K1 145 = (2, 9, 0) ∧ f1 145 0 = 0 ∧ K1 149 = K 149 ∧ f1 149 = f 149 ∧ K1 0 = K 0) := by
  refine mj_entry (by refine ⟨by decide +kernel, by decide, rfl, Nat.le_of_ble_eq_true rfl⟩) ?_
  show mj_W _ _ _ _ _ 0 [.ref 145, .int v1, .int v2, .null] [] _
  refine mj_aload_n (i := 0) (q := 1) dX7_lift_0 rfl rfl rfl ?_
  refine mj_num1 (v := 0) (q := 2) rfl dX7_lift_1 rfl ?_
  refine mj_putf (x := 0) (q := 5) dX7_lift_2 fl_X7_23 rfl rfl (by first | assumption | exact mj_rows | ((try dsimp only); rw [mj_rown (by omega)]; assumption)) rfl rfl rfl ?_
  refine mj_iload_n (i := 1) (q := 6) dX7_lift_5 rfl rfl rfl ?_
  refine mj_num2 (v := 10) (q := 8) (by decide) dX7_lift_6 rfl ?_
  refine mj_num3 (v := 999) (q := 11) (by decide) dX7_lift_8 rfl ?_
  refine mj_kS3i (K := m_X7_is) (q := 14) (mc1 := 0) (ms1 := 0) (mc := 2) (ms := 15) dX7_lift_11 ln_X7_78 ok_X7_is (Nat.le_of_ble_eq_true rfl) (by decide) rfl rfl rfl (s_is1 h1 h2) (fun r_11 h1 hq => ?_)
  obtain ⟨rfl, rfl⟩ := hq
  refine mj_if_eq (tgt := 27) (q := 17) dX7_lift_14 (by decide) rfl (fun c_14 => absurd c_14 (by decide)) (fun c_14 => ?_)
  refine mj_iload_n (i := 2) (q := 18) dX7_lift_17 rfl rfl rfl ?_
  refine mj_num1 (v := 3) (q := 19) rfl dX7_lift_18 rfl ?_
  refine mj_num2 (v := 9) (q := 21) (by decide) dX7_lift_19 rfl ?_
  refine mj_kS3i (K := m_X7_is) (q := 24) (mc1 := 0) (ms1 := 0) (mc := 2) (ms := 15) dX7_lift_21 ln_X7_78 ok_X7_is (Nat.le_of_ble_eq_true rfl) (by decide) rfl rfl rfl (s_is1 h3 h4) (fun r_21 h1 hq => ?_)
  obtain ⟨rfl, rfl⟩ := hq
  refine mj_if_ne (tgt := 33) (q := 27) dX7_lift_24 (by decide) rfl (fun c_24 => ?_) (fun c_24 => absurd c_24 (by decide))
  refine mj_aload_n (i := 0) (q := 34) dX7_lift_33 rfl rfl rfl ?_
  refine mj_getr (x := 0) (q := 37) dX7_lift_34 fl_X7_12 rfl rfl (by first | assumption | exact mj_rows | ((try dsimp only); rw [mj_rown (by omega)]; assumption)) (by first | assumption | exact mj_rows | ((try dsimp only); rw [mj_rown (by omega)]; assumption)) ?_
  refine mj_getrN (x := 0) (q := 40) dX7_lift_37 fn_X7_68 rfl rfl (by first | assumption | exact mj_rows | ((try dsimp only); rw [mj_rown (by omega)]; assumption)) (by first | assumption | exact mj_rows | ((try dsimp only); rw [mj_rown (by omega)]; assumption)) ?_
  refine mj_kV0i (K := m_Jx4a65c_size_8abf5) (q := 43) (mc1 := 0) (ms1 := 0) (mc := 2) (ms := 15) dX7_lift_40 ln_X7_72 ok_Jx4a65c_size_8abf5 (Nat.le_of_ble_eq_true rfl) (by decide) (mj_rc2 (x := 0) (ci := 1) (by first | assumption | exact mj_rows | ((try dsimp only); rw [mj_rown (by omega)]; assumption)) rfl) rfl rfl rfl (s_size (a := 147) (by assumption)) (fun r_40 h1 hq => ?_)
  obtain ⟨rfl, rfl⟩ := hq
  rw [mj_upr (by decide), fL]
  refine mj_num1 (v := 4) (q := 44) rfl dX7_lift_43 rfl ?_
  refine mj_icmp_ne (tgt := 53) (q := 47) dX7_lift_44 (by decide) rfl (fun c_44 => ?_) (fun c_44 => absurd c_44 (by decide))
  refine mj_num1 (v := 5) (q := 54) rfl dX7_lift_53 rfl ?_
  refine mj_newaB (L := 5) (mc := 1) (ms := 10) (q := 56) dX7_lift_54 (by decide) (by decide) (by decide) rfl rfl rfl ?_
  refine mj_astore_n (i := 3) (q := 57) dX7_lift_56 rfl rfl (by decide) rfl ?_
  dsimp only [List.set]
  refine mj_aload_n (i := 3) (q := 58) dX7_lift_57 rfl rfl rfl ?_
  refine mj_num1 (v := 0) (q := 59) rfl dX7_lift_58 rfl ?_
  refine mj_iload_n (i := 1) (q := 60) dX7_lift_59 rfl rfl rfl ?_
  refine mj_iast (q := 61) dX7_lift_60 rfl (by first | assumption | exact mj_rows | ((try dsimp only); rw [mj_rown (by omega)]; assumption)) (by unfold vp_in; decide) ?_
  refine mj_aload_n (i := 3) (q := 62) dX7_lift_61 rfl rfl rfl ?_
  refine mj_num1 (v := 1) (q := 63) rfl dX7_lift_62 rfl ?_
  refine mj_iload_n (i := 2) (q := 64) dX7_lift_63 rfl rfl rfl ?_
  refine mj_iast (q := 65) dX7_lift_64 rfl (by first | assumption | exact mj_rows | ((try dsimp only); rw [mj_rown (by omega)]; assumption)) (by unfold vp_in; decide) ?_
  refine mj_aload_n (i := 0) (q := 66) dX7_lift_65 rfl rfl rfl ?_
  refine mj_getr (x := 0) (q := 69) dX7_lift_66 fl_X7_12 rfl rfl (by first | assumption | exact mj_rows | ((try dsimp only); rw [mj_rown (by omega)]; assumption)) (by first | assumption | exact mj_rows | ((try dsimp only); rw [mj_rown (by omega)]; assumption)) ?_
  refine mj_getrN (x := 0) (q := 72) dX7_lift_69 fn_X7_68 rfl rfl (by first | assumption | exact mj_rows | ((try dsimp only); rw [mj_rown (by omega)]; assumption)) (by first | assumption | exact mj_rows | ((try dsimp only); rw [mj_rown (by omega)]; assumption)) ?_
  refine mj_aload_n (i := 3) (q := 73) dX7_lift_72 rfl rfl rfl ?_
  refine mj_kV1i (K := m_Jx4a65c_add_9ea2d) (q := 76) (mc1 := 1) (ms1 := 10) (mc := 0) (ms := 0) dX7_lift_73 ln_X7_99 ok_Jx4a65c_add_9ea2d (Nat.le_of_ble_eq_true rfl) (by decide) (mj_rc2 (x := 0) (ci := 1) (by first | assumption | exact mj_rows | ((try dsimp only); rw [mj_rown (by omega)]; assumption)) rfl) rfl rfl rfl (s_add (a := 147) (b := n) (Lb := 5) ((mj_rown (by omega)).trans kL) (by rw [mj_rown (by omega)]; exact gL1) (by omega) (by decide) (by rw [mj_upr (by omega), mj_upr (by omega), mj_rown (by omega), mj_upr (by decide)]; exact fL) mj_rows (by omega)) (fun r_73 h1 hq => ?_)
  obtain ⟨n1, K1, f1, g1, rfl, q1, q2⟩ := hq
  have kX1 : K1 145 = (2, 9, 0) := (q1 145 (by omega)).1.trans ((mj_rown (by omega)).trans kX)
  have gX1 : g1 145 1 = some 146 := by rw [((q1 145 (by omega)).2 (by decide)).2, mj_rown (by omega)]; exact gX
  have kY1 : K1 146 = (2, 8, 0) := (q1 146 (by omega)).1.trans ((mj_rown (by omega)).trans kY)
  have gL9 : g1 146 0 = some 147 := by rw [((q1 146 (by omega)).2 (by decide)).2, mj_rown (by omega)]; exact gL
  have kL1 : K1 147 = (2, 1, 0) := (q1 147 (by omega)).1.trans ((mj_rown (by omega)).trans kL)
  refine mj_pop (q := 77) rfl dX7_lift_76 rfl ?_
  refine mj_aload_n (i := 0) (q := 78) dX7_lift_77 rfl rfl rfl ?_
  refine mj_getr (x := 0) (q := 81) dX7_lift_78 fl_X7_12 rfl rfl (by first | assumption | exact mj_rows | ((try dsimp only); rw [mj_rown (by omega)]; assumption)) (by first | assumption | exact mj_rows | ((try dsimp only); rw [mj_rown (by omega)]; assumption)) ?_
  refine mj_getrN (x := 0) (q := 84) dX7_lift_81 fn_X7_68 rfl rfl (by first | assumption | exact mj_rows | ((try dsimp only); rw [mj_rown (by omega)]; assumption)) (by first | assumption | exact mj_rows | ((try dsimp only); rw [mj_rown (by omega)]; assumption)) ?_
  refine mj_kV0i (K := m_Jx4a65c_size_8abf5) (q := 87) (mc1 := 0) (ms1 := 0) (mc := 0) (ms := 0) dX7_lift_84 ln_X7_72 ok_Jx4a65c_size_8abf5 (Nat.le_of_ble_eq_true rfl) (by decide) (mj_rc2 (x := 0) (ci := 1) (by first | assumption | exact mj_rows | ((try dsimp only); rw [mj_rown (by omega)]; assumption)) rfl) rfl rfl rfl (s_size (a := 147) kL1) (fun r_84 h1 hq => ?_)
  obtain ⟨rfl, rfl⟩ := hq
  rw [q2]
  refine mj_num1 (v := 1) (q := 88) rfl dX7_lift_87 rfl ?_
  refine mj_isub (q := 89) dX7_lift_88 rfl ?_
  exact mj_ireturn dX7_lift_89 ⟨_, rfl, rfl⟩ ⟨_, rfl, ⟨by decide, _, _, _, _, rfl, kX1, by rw [((q1 145 (by omega)).2 (by decide)).1, mj_upr (by omega), mj_upr (by omega), mj_rown (by omega), mj_ups], (q1 149 (by omega)).1.trans (mj_rown (by omega)), by rw [((q1 149 (by omega)).2 (by decide)).1, mj_upr (by omega), mj_upr (by omega), mj_rown (by omega), mj_upr (by decide)], (q1 0 (by omega)).1.trans (mj_rown (by omega))⟩⟩
set_option maxHeartbeats 100000 in
set_option maxRecDepth 100000 in
theorem s_isG {d : Nat} {v lo hi : Int32} {h : mj_H} : mj_Ri m_X7_is (d + 1) 0 0 [.int v, .int lo, .int hi] h (fun r h1 => h1 = h) := by
  refine mj_entry (by refine ⟨by decide +kernel, by decide, rfl, Nat.le_of_ble_eq_true rfl⟩) ?_
  show mj_W _ _ _ _ _ 0 [.int v, .int lo, .int hi] [] _
  refine mj_iload_n (i := 0) (q := 1) dX7_is_0 rfl rfl rfl ?_
  refine mj_iload_n (i := 1) (q := 2) dX7_is_1 rfl rfl rfl ?_
  refine mj_icmp_lt (tgt := 14) (q := 5) dX7_is_2 (by decide) rfl (fun c_2 => ?_) (fun c_2 => ?_)
  · refine mj_num1 (v := 0) (q := 15) rfl dX7_is_14 rfl ?_
    exact mj_ireturn dX7_is_15 ⟨_, rfl, rfl⟩ ⟨_, rfl, rfl⟩
  · refine mj_iload_n (i := 0) (q := 6) dX7_is_5 rfl rfl rfl ?_
    refine mj_iload_n (i := 2) (q := 7) dX7_is_6 rfl rfl rfl ?_
    refine mj_icmp_gt (tgt := 14) (q := 10) dX7_is_7 (by decide) rfl (fun c_7 => ?_) (fun c_7 => ?_)
    · refine mj_num1 (v := 0) (q := 15) rfl dX7_is_14 rfl ?_
      exact mj_ireturn dX7_is_15 ⟨_, rfl, rfl⟩ ⟨_, rfl, rfl⟩
    · refine mj_num1 (v := 1) (q := 11) rfl dX7_is_10 rfl ?_
      refine mj_goto (q := 15) dX7_is_11 (by decide) ?_
      exact mj_ireturn dX7_is_15 ⟨_, rfl, rfl⟩ ⟨_, rfl, rfl⟩
set_option maxHeartbeats 100000 in
set_option maxRecDepth 100000 in
theorem s_ride {d n : Nat} {K : Nat → mj_K} {f : Nat → Nat → Int32} {g : Nat → Nat → Option Nat} (kY : K 146 = (2, 8, 0)) (gL : g 146 0 = some 147) (gR : g 146 1 = some 148) (kL : K 147 = (2, 1, 0)) (kR : K 148 = (2, 1, 0)) (fL : f 147 2 = 0) (fR : f 148 2 = 0) : mj_Rv m_X6_ride (d + 2) 0 0 [.ref 146] (n, K, f, g) (fun h1 => ∃ f1, h1 = (n, K, f1, g) ∧ (∀ z, z ≠ 146 → f1 z = f z) ∧ ∀ j, j ≠ 9 → f1 146 j = f 146 j) := by
  refine mj_entry (by refine ⟨by decide +kernel, by decide, rfl, Nat.le_of_ble_eq_true rfl⟩) ?_
  show mj_W _ _ _ _ _ 0 [.ref 146, .null, .null, .null, .null, .null, .null, .null, .null] [] _
  refine mj_aload_n (i := 0) (q := 1) dX6_ride_0 rfl rfl rfl ?_
  refine mj_getf (x := 0) (q := 4) dX6_ride_1 fl_X6_55 rfl rfl (by first | assumption | simp [mj_up, mj_upl, mj_row, *]) ?_
  refine mj_istore_n (i := 1) (q := 5) dX6_ride_4 rfl rfl (by decide) rfl ?_
  dsimp only [List.set]
  refine mj_num1 (v := 0) (q := 6) rfl dX6_ride_5 rfl ?_
  refine mj_istore_n (i := 2) (q := 7) dX6_ride_6 rfl rfl (by decide) rfl ?_
  dsimp only [List.set]
  refine mj_iload_n (i := 2) (q := 8) dX6_ride_7 rfl rfl rfl ?_
  refine mj_aload_n (i := 0) (q := 9) dX6_ride_8 rfl rfl rfl ?_
  refine mj_getr (x := 0) (q := 12) dX6_ride_9 fl_X6_12 rfl rfl (by first | assumption | simp [mj_up, mj_upl, mj_row, *]) (by first | assumption | simp [mj_up, mj_upl, mj_row, *]) ?_
  refine mj_kV0i (K := m_Jx4a65c_size_8abf5) (q := 15) (mc1 := 0) (ms1 := 0) (mc := 0) (ms := 0) dX6_ride_12 ln_X6_75 ok_Jx4a65c_size_8abf5 (Nat.le_of_ble_eq_true rfl) (by decide) (mj_rc2 (x := 0) (ci := 1) (by first | assumption | simp [mj_up, mj_upl, mj_row, *]) rfl) rfl rfl rfl (s_size (a := 147) kL) (fun r_12 h1 hq => ?_)
  obtain ⟨rfl, rfl⟩ := hq
  rw [fL]
  refine mj_icmp_ge (tgt := 162) (q := 18) dX6_ride_15 (by decide) rfl (fun c_15 => ?_) (fun c_15 => absurd (by decide) c_15)
  refine mj_aload_n (i := 0) (q := 163) dX6_ride_162 rfl rfl rfl ?_
  refine mj_dup (q := 164) rfl dX6_ride_163 rfl ?_
  refine mj_getf (x := 0) (q := 167) dX6_ride_164 fl_X6_162 rfl rfl (by first | assumption | simp [mj_up, mj_upl, mj_row, *]) ?_
  refine mj_iload_n (i := 1) (q := 168) dX6_ride_167 rfl rfl rfl ?_
  refine mj_iadd (q := 169) dX6_ride_168 rfl ?_
  refine mj_putf (x := 0) (q := 172) dX6_ride_169 fl_X6_162 rfl rfl (by first | assumption | simp [mj_up, mj_upl, mj_row, *]) rfl rfl rfl ?_
  exact mj_return dX6_ride_172 rfl ⟨rfl, ⟨_, rfl, fun z hz => mj_upr hz, fun j hj => mj_upn (Or.inr hj)⟩⟩
set_option maxHeartbeats 100000 in
set_option maxRecDepth 100000 in
theorem s_mpass {d n : Nat} {v1 v2 v3 v4 v5 : Int32} {K : Nat → mj_K} {f : Nat → Nat → Int32} {g : Nat → Nat → Option Nat} (kY : K 146 = (2, 8, 0)) (gL : g 146 0 = some 147) (gR : g 146 1 = some 148) (kL : K 147 = (2, 1, 0)) (kR : K 148 = (2, 1, 0)) (fL : f 147 2 = 0) (fR : f 148 2 = 0) (f5 : f 146 5 = 0) (hn : 149 < n) : mj_Ri m_X6_pass (d + 3) 1 4 [.ref 146, .int v1, .int v2, .int v3, .int v4, .int v5] (n, K, f, g) (fun r h1 => r = 0 ∧ ∃ K1 f1 g1, h1 = (n + 1, K1, f1, g1) ∧ (∀ z, z < n → K1 z = K z ∧ g1 z = g z ∧ (z ≠ 146 → f1 z = f z)) ∧ ∀ j, j ≠ 2 → j ≠ 9 → f1 146 j = f 146 j) := by
  refine mj_entry (by refine ⟨by decide +kernel, by decide, rfl, Nat.le_of_ble_eq_true rfl⟩) ?_
  show mj_W _ _ _ _ _ 0 [.ref 146, .int v1, .int v2, .int v3, .int v4, .int v5, .null, .null, .null] [] _
  refine mj_aload_n (i := 0) (q := 1) dX6_pass_0 rfl rfl rfl ?_
  refine mj_getfv (x := 0) (v := 0) (q := 4) dX6_pass_1 fl_X6_69 rfl rfl (by first | assumption | simp [mj_up, mj_upl, mj_row, *]) f5 ?_
  refine mj_istore (i := 6) (q := 6) dX6_pass_4 rfl (by decide) rfl ?_
  dsimp only [List.set]
  refine mj_aload_n (i := 0) (q := 7) dX6_pass_6 rfl rfl rfl ?_
  refine mj_dup (q := 8) rfl dX6_pass_7 rfl ?_
  refine mj_getf (x := 0) (q := 11) dX6_pass_8 fl_X6_52 rfl rfl (by first | assumption | simp [mj_up, mj_upl, mj_row, *]) ?_
  refine mj_num1 (v := 1) (q := 12) rfl dX6_pass_11 rfl ?_
  refine mj_iadd (q := 13) dX6_pass_12 rfl ?_
  refine mj_putf (x := 0) (q := 16) dX6_pass_13 fl_X6_52 rfl rfl (by first | assumption | simp [mj_up, mj_upl, mj_row, *]) rfl rfl rfl ?_
  refine mj_num1 (v := 0) (q := 17) rfl dX6_pass_16 rfl ?_
  refine mj_istore (i := 7) (q := 19) dX6_pass_17 rfl (by decide) rfl ?_
  dsimp only [List.set]
  refine mj_iload (i := 7) (q := 21) dX6_pass_19 rfl rfl ?_
  refine mj_aload_n (i := 0) (q := 22) dX6_pass_21 rfl rfl rfl ?_
  refine mj_getr (x := 0) (q := 25) dX6_pass_22 fl_X6_18 rfl rfl (by first | assumption | simp [mj_up, mj_upl, mj_row, *]) (by first | assumption | simp [mj_up, mj_upl, mj_row, *]) ?_
  refine mj_kV0i (K := m_Jx4a65c_size_8abf5) (q := 28) (mc1 := 0) (ms1 := 0) (mc := 1) (ms := 4) dX6_pass_25 ln_X6_75 ok_Jx4a65c_size_8abf5 (Nat.le_of_ble_eq_true rfl) (by decide) (mj_rc2 (x := 0) (ci := 1) (by first | assumption | simp [mj_up, mj_upl, mj_row, *]) rfl) rfl rfl rfl (s_size (a := 148) kR) (fun r_25 h1 hq => ?_)
  obtain ⟨rfl, rfl⟩ := hq
  rw [mj_upr (by decide), fR]
  refine mj_icmp_ge (tgt := 50) (q := 31) dX6_pass_28 (by decide) rfl (fun c_28 => ?_) (fun c_28 => absurd (by decide) c_28)
  refine mj_aload_n (i := 0) (q := 51) dX6_pass_50 rfl rfl rfl ?_
  refine mj_getr (x := 0) (q := 54) dX6_pass_51 fl_X6_12 rfl rfl (by first | assumption | simp [mj_up, mj_upl, mj_row, *]) (by first | assumption | simp [mj_up, mj_upl, mj_row, *]) ?_
  refine mj_kV0r (K := m_Jx4a65c_iterator_32c93) (q := 57) (mc1 := 1) (ms1 := 4) (mc := 0) (ms := 0) dX6_pass_54 ln_X6_29 ok_Jx4a65c_iterator_32c93 (Nat.le_of_ble_eq_true rfl) (by decide) (mj_rc2 (x := 0) (ci := 1) (by first | assumption | simp [mj_up, mj_upl, mj_row, *]) rfl) rfl rfl rfl (s_iter (a := 147) kL (by omega)) (fun r_54 h1 hq => ?_)
  obtain ⟨e9, K1, f1, g1, rfl, hO, t1, t2, t3⟩ := hq
  rw [e9]
  have kY1 := (hO 146 (by omega)).1.trans kY
  have gL1 : g1 146 0 = some 147 := (congrFun (hO 146 (by omega)).2.2 0).trans gL
  have gR1 : g1 146 1 = some 148 := (congrFun (hO 146 (by omega)).2.2 1).trans gR
  have kL1 := (hO 147 (by omega)).1.trans kL
  have kR1 := (hO 148 (by omega)).1.trans kR
  have fL1 : f1 147 2 = 0 := by rw [(hO 147 (by omega)).2.1, mj_upr (by decide)]; exact fL
  have fR1 : f1 148 2 = 0 := by rw [(hO 148 (by omega)).2.1, mj_upr (by decide)]; exact fR
  have fS1 : f1 146 5 = 0 := by rw [(hO 146 (by omega)).2.1, mj_upn (Or.inr (by decide))]; exact f5
  refine mj_astore (i := 7) (q := 59) dX6_pass_57 rfl (by decide) rfl ?_
  dsimp only [List.set]
  refine mj_aload (i := 7) (q := 61) dX6_pass_59 rfl rfl ?_
  refine mj_hasNext (t := n) (a := 147) (q := 66) dX6_pass_61 ln_X6_33 (Nat.le_of_ble_eq_true rfl) rfl t1 kL1 t2 t3 fL1 ?_
  refine mj_if_eq (tgt := 97) (q := 69) dX6_pass_66 (by decide) rfl (fun c_66 => ?_) (fun c_66 => absurd rfl c_66)
  refine mj_aload_n (i := 0) (q := 98) dX6_pass_97 rfl rfl rfl ?_
  refine mj_getf (x := 0) (q := 101) dX6_pass_98 fl_X6_52 rfl rfl (by first | assumption | simp [mj_up, mj_upl, mj_row, *]) ?_
  refine mj_num2 (v := 24) (q := 103) (by decide) dX6_pass_101 rfl ?_
  refine mj_irem (q := 104) (by decide) dX6_pass_103 rfl ?_
  refine mj_num2 (v := 9) (q := 106) (by decide) dX6_pass_104 rfl ?_
  refine mj_num2 (v := 16) (q := 108) (by decide) dX6_pass_106 rfl ?_
  refine mj_kSN3i (K := m_X7_is) (q := 111) (mc1 := 0) (ms1 := 0) (mc := 0) (ms := 0) dX6_pass_108 (fun _ z => mj_XW.nm_X6_82 z) ok_X7_is (Nat.le_of_ble_eq_true rfl) (by decide) rfl rfl rfl (s_isG) (fun r_108 h1 hq => ?_)
  subst hq
  refine mj_if_eq (tgt := 118) (q := 114) dX6_pass_111 (by decide) rfl (fun c_111 => ?_) (fun c_111 => ?_)
  · refine mj_aload_n (i := 0) (q := 119) dX6_pass_118 rfl rfl rfl ?_
    refine mj_getfv (x := 0) (v := 0) (q := 122) dX6_pass_119 fl_X6_69 rfl rfl (by first | assumption | simp [mj_up, mj_upl, mj_row, *]) (by first | exact fS1 | exact (z2 5 (by decide)).trans fS1) ?_
    refine mj_iload (i := 6) (q := 124) dX6_pass_122 rfl rfl ?_
    refine mj_isub (q := 125) dX6_pass_124 rfl ?_
    exact mj_ireturn dX6_pass_125 ⟨_, rfl, rfl⟩ ⟨_, rfl, ⟨by decide, _, _, _, rfl, fun z hz => ⟨(hO z hz).1, (hO z hz).2.2, fun hz2 => (hO z hz).2.1.trans (mj_upr hz2)⟩, fun j j1 j2 => by rw [(hO 146 (by omega)).2.1, mj_upn (Or.inr j1)]⟩⟩
  · refine mj_aload_n (i := 0) (q := 115) dX6_pass_114 rfl rfl rfl ?_
    refine mj_kV0v (K := m_X6_ride) (q := 118) (mc1 := 0) (ms1 := 0) (mc := 0) (ms := 0) dX6_pass_115 ln_X6_86 ok_X6_ride (Nat.le_of_ble_eq_true rfl) (by decide) (mj_rc2 (x := 0) (ci := 8) (by first | assumption | simp [mj_up, mj_upl, mj_row, *]) rfl) rfl rfl rfl (s_ride kY1 gL1 gR1 kL1 kR1 fL1 fR1) (fun h1 hq => ?_)
    obtain ⟨f9, rfl, z1, z2⟩ := hq
    refine mj_aload_n (i := 0) (q := 119) dX6_pass_118 rfl rfl rfl ?_
    refine mj_getfv (x := 0) (v := 0) (q := 122) dX6_pass_119 fl_X6_69 rfl rfl (by first | assumption | simp [mj_up, mj_upl, mj_row, *]) (by first | exact fS1 | exact (z2 5 (by decide)).trans fS1) ?_
    refine mj_iload (i := 6) (q := 124) dX6_pass_122 rfl rfl ?_
    refine mj_isub (q := 125) dX6_pass_124 rfl ?_
    exact mj_ireturn dX6_pass_125 ⟨_, rfl, rfl⟩ ⟨_, rfl, ⟨by decide, _, _, _, rfl, fun z hz => ⟨(hO z hz).1, (hO z hz).2.2, fun hz2 => (z1 z hz2).trans ((hO z hz).2.1.trans (mj_upr hz2))⟩, fun j j1 j2 => by rw [z2 j j2, (hO 146 (by omega)).2.1, mj_upn (Or.inr j1)]⟩⟩
set_option maxHeartbeats 100000 in
set_option maxRecDepth 100000 in
theorem r_pass {d n : Nat} {v1 v2 v3 v4 v5 v6 : Int32} {K : Nat → mj_K} {f : Nat → Nat → Int32} {g : Nat → Nat → Option Nat} (kX : K 145 = (2, 9, 0)) (gX : g 145 1 = some 146) (kY : K 146 = (2, 8, 0)) (gL : g 146 0 = some 147) (gR : g 146 1 = some 148) (kL : K 147 = (2, 1, 0)) (kR : K 148 = (2, 1, 0)) (fL : f 147 2 = 0) (fR : f 148 2 = 0) (fY : f 146 = v0Y) (hn : 149 < n) (h0a : ¬ v1 < 1) (h0b : v1 ≤ 48) (h1a : ¬ v2 < -20) (h1b : v2 ≤ 20) (h2a : ¬ v3 < 0) (h2b : v3 ≤ 9) (h3a : ¬ v4 < 0) (h3b : v4 ≤ 9) (h4a : ¬ v5 < 0) (h4b : v5 ≤ 3) (h5a : ¬ v6 < 0) (h5b : v6 ≤ 100) : mj_Ri m_X7_pass (d + 4) 48 192 [.ref 145, .int v1, .int v2, .int v3, .int v4, .int v5, .int v6] (n, K, f, g) (fun r h1 => r = 0 ∧ ∃ n1 K1 f1 g1, h1 = (n1, K1, f1, g1) ∧ K1 145 = (2, 9, 0) ∧ f1 145 0 = 0 ∧ K1 149 = K 149 ∧ f1 149 = f 149 ∧ K1 0 = K 0) := by
  obtain ⟨N, hN, rfl⟩ := nI_of2 (M := 48) (n := 48) rfl (fun z => h0a (Int32.lt_trans z (by decide))) h0b
  have loop : ∀ (j i m : Nat) (K1 : Nat → mj_K) (f1 : Nat → Nat → Int32) (g1 : Nat → Nat → Option Nat), i + j = N → 149 < m → K1 145 = (2, 9, 0) → g1 145 1 = some 146 → K1 146 = (2, 8, 0) → g1 146 0 = some 147 → g1 146 1 = some 148 → K1 147 = (2, 1, 0) → K1 148 = (2, 1, 0) → f1 147 2 = 0 → f1 148 2 = 0 → f1 146 5 = 0 → f1 145 0 = 0 → K1 149 = K 149 → f1 149 = f 149 → K1 0 = K 0 → mj_W m_X7_pass (d + 4) j (4 * j) (fun v h1 => ∃ r, v = some (.int r) ∧ (fun r h1 => r = 0 ∧ ∃ n1 K1 f1 g1, h1 = (n1, K1, f1, g1) ∧ K1 145 = (2, 9, 0) ∧ f1 145 0 = 0 ∧ K1 149 = K 149 ∧ f1 149 = f 149 ∧ K1 0 = K 0) r h1, fun _ _ => False) 94 [.ref 145, .int (nI N), .int v2, .int v3, .int v4, .int v5, .int v6, .int 0, .int (nI i)] [] (m, K1, f1, g1) := by
    intro j
    induction j with
    | zero =>
      intro i m K1 f1 g1 hi hm a1 a2 a3 a4 a5 a6 a7 a8 a9 b1 b2 b3 b4 b5
      have hi : i = N := by omega
      subst hi
      show mj_W _ _ 0 0 _ _ _ _ _
      refine mj_iload (i := 8) (q := 96) dX7_pass_94 rfl rfl ?_
      refine mj_iload_n (i := 1) (q := 97) dX7_pass_96 rfl rfl rfl ?_
      refine mj_icmp_ge (tgt := 126) (q := 100) dX7_pass_97 (by decide) rfl (fun c_97 => ?_) (fun c_97 => absurd (Int32.le_refl _) c_97)
      refine mj_aload_n (i := 0) (q := 127) dX7_pass_126 rfl rfl rfl ?_
      refine mj_iload (i := 4) (q := 129) dX7_pass_127 rfl rfl ?_
      refine mj_putf (x := 0) (q := 132) dX7_pass_129 fl_X7_107 rfl rfl (by first | assumption | simp [mj_up, mj_upl, mj_row, *]) rfl rfl rfl ?_
      refine mj_iload (i := 7) (q := 134) dX7_pass_132 rfl rfl ?_
      exact mj_ireturn dX7_pass_134 ⟨_, rfl, rfl⟩ ⟨_, rfl, ⟨rfl, _, _, _, _, rfl, a1, by rw [mj_upn (Or.inr (by decide))]; exact b2, b3, by rw [mj_upr (by decide)]; exact b4, b5⟩⟩
    | succ j ih =>
      intro i m K1 f1 g1 hi hm a1 a2 a3 a4 a5 a6 a7 a8 a9 b1 b2 b3 b4 b5
      refine mj_iload (i := 8) (q := 96) dX7_pass_94 rfl rfl ?_
      refine mj_iload_n (i := 1) (q := 97) dX7_pass_96 rfl rfl rfl ?_
      refine mj_icmp_ge (tgt := 126) (q := 100) dX7_pass_97 (by decide) rfl (fun c_97 => absurd c_97 (nI_ge (a := i) (b := N) (by omega) (by omega))) (fun c_97 => ?_)
      refine mj_iload (i := 7) (q := 102) dX7_pass_100 rfl rfl ?_
      refine mj_aload_n (i := 0) (q := 103) dX7_pass_102 rfl rfl rfl ?_
      refine mj_getr (x := 0) (q := 106) dX7_pass_103 fl_X7_12 rfl rfl (by first | assumption | simp [mj_up, mj_upl, mj_row, *]) (by first | assumption | simp [mj_up, mj_upl, mj_row, *]) ?_
      refine mj_iload_n (i := 2) (q := 107) dX7_pass_106 rfl rfl rfl ?_
      refine mj_iload_n (i := 3) (q := 108) dX7_pass_107 rfl rfl rfl ?_
      refine mj_iload (i := 4) (q := 110) dX7_pass_108 rfl rfl ?_
      refine mj_iload (i := 5) (q := 112) dX7_pass_110 rfl rfl ?_
      refine mj_iload (i := 6) (q := 114) dX7_pass_112 rfl rfl ?_
      refine mj_kV5i (K := m_X6_pass) (q := 117) (mc1 := 1) (ms1 := 4) (mc := j) (ms := 4 * j) dX7_pass_114 ln_X7_128 ok_X6_pass (Nat.le_of_ble_eq_true rfl) (by decide) (mj_rc2 (x := 0) (ci := 8) (by first | assumption | simp [mj_up, mj_upl, mj_row, *]) rfl) rfl (by omega) (by omega) (s_mpass a3 a4 a5 a6 a7 a8 a9 b1 hm) (fun r_114 h1 hq => ?_)
      obtain ⟨rfl, K2, f2, g2, rfl, z1, z2⟩ := hq
      have e9 : mj_W m_X7_pass (d + 4) j (4 * j) (fun v h1 => ∃ r, v = some (.int r) ∧ (fun r h1 => r = 0 ∧ ∃ n1 K1 f1 g1, h1 = (n1, K1, f1, g1) ∧ K1 145 = (2, 9, 0) ∧ f1 145 0 = 0 ∧ K1 149 = K 149 ∧ f1 149 = f 149 ∧ K1 0 = K 0) r h1, fun _ _ => False) 94 [.ref 145, .int (nI N), .int v2, .int v3, .int v4, .int v5, .int v6, .int 0, .int (nI (i + 1))] [] (m + 1, K2, f2, g2) := ih (i + 1) (m + 1) K2 f2 g2 (by omega) (by omega) ((z1 145 (by omega)).1.trans a1) ((congrFun (z1 145 (by omega)).2.1 1).trans a2) ((z1 146 (by omega)).1.trans a3) ((congrFun (z1 146 (by omega)).2.1 0).trans a4) ((congrFun (z1 146 (by omega)).2.1 1).trans a5) ((z1 147 (by omega)).1.trans a6) ((z1 148 (by omega)).1.trans a7) ((congrFun ((z1 147 (by omega)).2.2 (by decide)) 2).trans a8) ((congrFun ((z1 148 (by omega)).2.2 (by decide)) 2).trans a9) ((z2 5 (by decide) (by decide)).trans b1) ((congrFun ((z1 145 (by omega)).2.2 (by decide)) 0).trans b2) ((z1 149 (by omega)).1.trans b3) (((z1 149 (by omega)).2.2 (by decide)).trans b4) ((z1 0 (by omega)).1.trans b5)
      refine mj_iadd (q := 118) dX7_pass_117 rfl ?_
      refine mj_istore (i := 7) (q := 120) dX7_pass_118 rfl (by decide) rfl ?_
      dsimp only [List.set]
      refine mj_iinc (i := 8) (q := 123) dX7_pass_120 rfl rfl (by decide) rfl ?_
      dsimp only [List.set]
      refine mj_goto (q := 94) dX7_pass_123 (by decide) ?_
      rw [show nI i + Int32.ofInt 1 = nI (i + 1) from nI_1 i]
      exact e9
  refine mj_entry (by refine ⟨by decide +kernel, by decide, rfl, Nat.le_of_ble_eq_true rfl⟩) ?_
  show mj_W _ _ _ _ _ 0 [.ref 145, .int (nI N), .int v2, .int v3, .int v4, .int v5, .int v6, .null, .null] [] _
  refine mj_aload_n (i := 0) (q := 1) dX7_pass_0 rfl rfl rfl ?_
  refine mj_num1 (v := 0) (q := 2) rfl dX7_pass_1 rfl ?_
  refine mj_putf (x := 0) (q := 5) dX7_pass_2 fl_X7_23 rfl rfl (by first | assumption | simp [mj_up, mj_upl, mj_row, *]) rfl rfl rfl ?_
  refine mj_iload_n (i := 1) (q := 6) dX7_pass_5 rfl rfl rfl ?_
  refine mj_kS1i (K := m_X7_areHours) (q := 9) (mc1 := 0) (ms1 := 0) (mc := 48) (ms := 192) dX7_pass_6 ln_X7_119 ok_X7_areHours (Nat.le_of_ble_eq_true rfl) (by decide) rfl rfl rfl (s_areHours1 h0a h0b) (fun r_6 h1 hq => ?_)
  obtain ⟨rfl, rfl⟩ := hq
  refine mj_if_eq (tgt := 61) (q := 12) dX7_pass_9 (by decide) rfl (fun c_9 => absurd c_9 (by decide)) (fun c_9 => ?_)
  refine mj_iload_n (i := 2) (q := 13) dX7_pass_12 rfl rfl rfl ?_
  refine mj_kS1i (K := m_X7_isWarmth) (q := 16) (mc1 := 0) (ms1 := 0) (mc := 48) (ms := 192) dX7_pass_13 ln_X7_122 ok_X7_isWarmth (Nat.le_of_ble_eq_true rfl) (by decide) rfl rfl rfl (s_isWarmth1 h1a h1b) (fun r_13 h1 hq => ?_)
  obtain ⟨rfl, rfl⟩ := hq
  refine mj_if_eq (tgt := 61) (q := 19) dX7_pass_16 (by decide) rfl (fun c_16 => absurd c_16 (by decide)) (fun c_16 => ?_)
  refine mj_iload_n (i := 3) (q := 20) dX7_pass_19 rfl rfl rfl ?_
  refine mj_num1 (v := 0) (q := 21) rfl dX7_pass_20 rfl ?_
  refine mj_num2 (v := 9) (q := 23) (by decide) dX7_pass_21 rfl ?_
  refine mj_kS3i (K := m_X7_is) (q := 26) (mc1 := 0) (ms1 := 0) (mc := 48) (ms := 192) dX7_pass_23 ln_X7_78 ok_X7_is (Nat.le_of_ble_eq_true rfl) (by decide) rfl rfl rfl (s_is1 h2a h2b) (fun r_23 h1 hq => ?_)
  obtain ⟨rfl, rfl⟩ := hq
  refine mj_if_eq (tgt := 61) (q := 29) dX7_pass_26 (by decide) rfl (fun c_26 => absurd c_26 (by decide)) (fun c_26 => ?_)
  refine mj_iload (i := 4) (q := 31) dX7_pass_29 rfl rfl ?_
  refine mj_num1 (v := 0) (q := 32) rfl dX7_pass_31 rfl ?_
  refine mj_num2 (v := 9) (q := 34) (by decide) dX7_pass_32 rfl ?_
  refine mj_kS3i (K := m_X7_is) (q := 37) (mc1 := 0) (ms1 := 0) (mc := 48) (ms := 192) dX7_pass_34 ln_X7_78 ok_X7_is (Nat.le_of_ble_eq_true rfl) (by decide) rfl rfl rfl (s_is1 h3a h3b) (fun r_34 h1 hq => ?_)
  obtain ⟨rfl, rfl⟩ := hq
  refine mj_if_eq (tgt := 61) (q := 40) dX7_pass_37 (by decide) rfl (fun c_37 => absurd c_37 (by decide)) (fun c_37 => ?_)
  refine mj_iload (i := 5) (q := 42) dX7_pass_40 rfl rfl ?_
  refine mj_num1 (v := 0) (q := 43) rfl dX7_pass_42 rfl ?_
  refine mj_num1 (v := 3) (q := 44) rfl dX7_pass_43 rfl ?_
  refine mj_kS3i (K := m_X7_is) (q := 47) (mc1 := 0) (ms1 := 0) (mc := 48) (ms := 192) dX7_pass_44 ln_X7_78 ok_X7_is (Nat.le_of_ble_eq_true rfl) (by decide) rfl rfl rfl (s_is1 h4a h4b) (fun r_44 h1 hq => ?_)
  obtain ⟨rfl, rfl⟩ := hq
  refine mj_if_eq (tgt := 61) (q := 50) dX7_pass_47 (by decide) rfl (fun c_47 => absurd c_47 (by decide)) (fun c_47 => ?_)
  refine mj_iload (i := 6) (q := 52) dX7_pass_50 rfl rfl ?_
  refine mj_num1 (v := 0) (q := 53) rfl dX7_pass_52 rfl ?_
  refine mj_num2 (v := 100) (q := 55) (by decide) dX7_pass_53 rfl ?_
  refine mj_kS3i (K := m_X7_is) (q := 58) (mc1 := 0) (ms1 := 0) (mc := 48) (ms := 192) dX7_pass_55 ln_X7_78 ok_X7_is (Nat.le_of_ble_eq_true rfl) (by decide) rfl rfl rfl (s_is1 h5a h5b) (fun r_55 h1 hq => ?_)
  obtain ⟨rfl, rfl⟩ := hq
  refine mj_if_ne (tgt := 67) (q := 61) dX7_pass_58 (by decide) rfl (fun c_58 => ?_) (fun c_58 => absurd c_58 (by decide))
  refine mj_aload_n (i := 0) (q := 68) dX7_pass_67 rfl rfl rfl ?_
  refine mj_getr (x := 0) (q := 71) dX7_pass_68 fl_X7_12 rfl rfl (by first | assumption | simp [mj_up, mj_upl, mj_row, *]) (by first | assumption | simp [mj_up, mj_upl, mj_row, *]) ?_
  refine mj_getfvN (x := 0) (v := 0) (q := 74) dX7_pass_71 fn_X7_125 rfl rfl (by first | assumption | simp [mj_up, mj_upl, mj_row, *]) (by rw [mj_upr (by decide), fY]; rfl) ?_
  refine mj_iload_n (i := 1) (q := 75) dX7_pass_74 rfl rfl rfl ?_
  refine mj_iadd (q := 76) dX7_pass_75 rfl ?_
  refine mj_num3 (v := 9999) (q := 79) (by decide) dX7_pass_76 rfl ?_
  refine mj_icmp_le (tgt := 88) (q := 82) dX7_pass_79 (by decide) rfl (fun c_79 => ?_) (fun c_79 => absurd (by have e9 : (0 : Int32) + nI N = nI N := Int32.zero_add _; rw [e9]; exact Int32.le_trans h0b (by decide)) c_79)
  refine mj_num1 (v := 0) (q := 89) rfl dX7_pass_88 rfl ?_
  refine mj_istore (i := 7) (q := 91) dX7_pass_89 rfl (by decide) rfl ?_
  dsimp only [List.set]
  refine mj_num1 (v := nI 0) (q := 92) (by decide) dX7_pass_91 rfl ?_
  refine mj_istore (i := 8) (q := 94) dX7_pass_92 rfl (by decide) rfl ?_
  dsimp only [List.set]
  refine mj_budget (mc1 := N) (ms1 := 4 * N) (by omega) (by omega) ?_
  exact loop N 0 n K _ g (by omega) hn kX gX kY gL gR kL kR (by rw [mj_upr (by decide)]; exact fL) (by rw [mj_upr (by decide)]; exact fR) (by rw [mj_upr (by decide), fY]; rfl) mj_ups rfl (mj_upr (by decide)) rfl
