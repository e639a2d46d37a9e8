/-! THE REFERENCE on a fresh object: many, the mean, what would be, the sum -/
theorem tnc_0 : (0 : Int32).toNatClampNeg = 0 := by decide
theorem tnc_1 : (1 : Int32).toNatClampNeg = 1 := by decide
theorem tnc_2 : (2 : Int32).toNatClampNeg = 2 := by decide
theorem tnc_3 : (3 : Int32).toNatClampNeg = 3 := by decide
theorem tnc_4 : (4 : Int32).toNatClampNeg = 4 := by decide
theorem tnc_5 : (5 : Int32).toNatClampNeg = 5 := by decide
theorem tnc_6 : (6 : Int32).toNatClampNeg = 6 := by decide
theorem tnc_7 : (7 : Int32).toNatClampNeg = 7 := by decide
theorem tnc_8 : (8 : Int32).toNatClampNeg = 8 := by decide
theorem tnc_9 : (9 : Int32).toNatClampNeg = 9 := by decide
theorem tnc_10 : (10 : Int32).toNatClampNeg = 10 := by decide
theorem tnc_11 : (11 : Int32).toNatClampNeg = 11 := by decide
theorem tnc_12 : (12 : Int32).toNatClampNeg = 12 := by decide
theorem tnc_13 : (13 : Int32).toNatClampNeg = 13 := by decide
theorem tnc_14 : (14 : Int32).toNatClampNeg = 14 := by decide
set_option maxHeartbeats 100000 in
set_option maxRecDepth 100000 in
theorem s_manyNow {d n k : Nat} {K : Nat → mj_K} {f : Nat → Nat → Int32} {g : Nat → Nat → Option Nat} (kX : K 145 = (2, 9, 0)) (gX : g 145 1 = some 146) (kY : K 146 = (2, 8, 0)) (gL : g 146 0 = some 147) (gR : g 146 1 = some 148) (kL : K 147 = (2, 1, 0)) (kR : K 148 = (2, 1, 0)) (fL : f 147 2 = 0) (fR : f 148 2 = 0) (fY : f 146 = v0Y) (fX2 : f 145 2 = 50) (fX4 : f 145 4 = 100) (hn : 149 < n) (hk : k < 15) : mj_Ri m_X7_manyNow (d + 3) 3 23 [.ref 145, .int (nI k)] (n, K, f, g) (fun r h1 => r = v_many k ∧ ∃ n1 K1 f1 g1, h1 = (n1, K1, f1, g1) ∧ n ≤ n1 ∧ mj_old n K K1 f f1 g g1) := by
  refine mj_entry (by refine ⟨by decide +kernel, by decide, rfl, Nat.le_of_ble_eq_true rfl⟩) ?_
  show mj_W _ _ _ _ _ 0 [.ref 145, .int (nI k), .null, .null, .null, .null, .null] [] _
  refine mj_num1 (v := 0) (q := 1) rfl dX7_manyNow_0 rfl ?_
  refine mj_istore_n (i := 2) (q := 2) dX7_manyNow_1 rfl rfl (by decide) rfl ?_
  dsimp only [List.set]
  refine mj_num1 (v := 0) (q := 3) rfl dX7_manyNow_2 rfl ?_
  refine mj_istore_n (i := 3) (q := 4) dX7_manyNow_3 rfl rfl (by decide) rfl ?_
  dsimp only [List.set]
  refine mj_num1 (v := 0) (q := 5) rfl dX7_manyNow_4 rfl ?_
  refine mj_istore (i := 4) (q := 7) dX7_manyNow_5 rfl (by decide) rfl ?_
  dsimp only [List.set]
  refine mj_aload_n (i := 0) (q := 8) dX7_manyNow_7 rfl rfl rfl ?_
  refine mj_getr (x := 0) (q := 11) dX7_manyNow_8 fl_X7_12 rfl rfl (by first | assumption | exact mj_rows | ((try dsimp only); rw [mj_rown (by omega)]; assumption)) (by first | assumption | exact mj_rows | ((try dsimp only); rw [mj_rown (by omega)]; assumption)) ?_
  refine mj_getrN (x := 0) (q := 14) dX7_manyNow_11 fn_X7_68 rfl rfl (by first | assumption | exact mj_rows | ((try dsimp only); rw [mj_rown (by omega)]; assumption)) (by first | assumption | exact mj_rows | ((try dsimp only); rw [mj_rown (by omega)]; assumption)) ?_
  refine mj_kV0r (K := m_Jx4a65c_iterator_32c93) (q := 17) (mc1 := 1) (ms1 := 4) (mc := 2) (ms := 19) dX7_manyNow_14 ln_X7_175 ok_Jx4a65c_iterator_32c93 (Nat.le_of_ble_eq_true rfl) (by decide) (mj_rc2 (x := 0) (ci := 1) (by first | assumption | exact mj_rows | ((try dsimp only); rw [mj_rown (by omega)]; assumption)) rfl) rfl rfl rfl (s_iter (a := 147) kL (by omega)) (fun r_14 h1 hq => ?_)
  obtain ⟨e9, K1, f1, g1, rfl, hO1, t11, t12, t13⟩ := hq
  rw [e9]
  have kX1 : K1 145 = (2, 9, 0) := (hO1 145 (by omega)).1.trans kX
  have gX1 : g1 145 1 = some 146 := (congrFun (hO1 145 (by omega)).2.2 1).trans gX
  have kY1 : K1 146 = (2, 8, 0) := (hO1 146 (by omega)).1.trans kY
  have gL1 : g1 146 0 = some 147 := (congrFun (hO1 146 (by omega)).2.2 0).trans gL
  have gR1 : g1 146 1 = some 148 := (congrFun (hO1 146 (by omega)).2.2 1).trans gR
  have kL1 : K1 147 = (2, 1, 0) := (hO1 147 (by omega)).1.trans kL
  have kR1 : K1 148 = (2, 1, 0) := (hO1 148 (by omega)).1.trans kR
  have fL1 : f1 147 2 = 0 := (congrFun (hO1 147 (by omega)).2.1 2).trans fL
  have fR1 : f1 148 2 = 0 := (congrFun (hO1 148 (by omega)).2.1 2).trans fR
  have fY1 : f1 146 = v0Y := (hO1 146 (by omega)).2.1.trans fY
  have fX21 : f1 145 2 = 50 := (congrFun (hO1 145 (by omega)).2.1 2).trans fX2
  have fX41 : f1 145 4 = 100 := (congrFun (hO1 145 (by omega)).2.1 4).trans fX4
  refine mj_astore (i := 5) (q := 19) dX7_manyNow_17 rfl (by decide) rfl ?_
  dsimp only [List.set]
  refine mj_aload (i := 5) (q := 21) dX7_manyNow_19 rfl rfl ?_
  refine mj_hasNext (t := n) (a := 147) (q := 26) dX7_manyNow_21 ln_X7_179 (Nat.le_of_ble_eq_true rfl) rfl t11 kL1 t12 t13 fL1 ?_
  refine mj_if_eq (tgt := 51) (q := 29) dX7_manyNow_26 (by decide) rfl (fun c_26 => ?_) (fun c_26 => absurd rfl c_26)
  refine mj_aload_n (i := 0) (q := 52) dX7_manyNow_51 rfl rfl rfl ?_
  refine mj_getr (x := 0) (q := 55) dX7_manyNow_52 fl_X7_12 rfl rfl (by first | assumption | exact mj_rows | ((try dsimp only); rw [mj_rown (by omega)]; assumption)) (by first | assumption | exact mj_rows | ((try dsimp only); rw [mj_rown (by omega)]; assumption)) ?_
  refine mj_getrN (x := 0) (q := 58) dX7_manyNow_55 fn_X7_82 rfl rfl (by first | assumption | exact mj_rows | ((try dsimp only); rw [mj_rown (by omega)]; assumption)) (by first | assumption | exact mj_rows | ((try dsimp only); rw [mj_rown (by omega)]; assumption)) ?_
  refine mj_kV0r (K := m_Jx4a65c_iterator_32c93) (q := 61) (mc1 := 1) (ms1 := 4) (mc := 1) (ms := 15) dX7_manyNow_58 ln_X7_175 ok_Jx4a65c_iterator_32c93 (Nat.le_of_ble_eq_true rfl) (by decide) (mj_rc2 (x := 0) (ci := 1) (by first | assumption | exact mj_rows | ((try dsimp only); rw [mj_rown (by omega)]; assumption)) rfl) rfl rfl rfl (s_iter (a := 148) kR1 (by omega)) (fun r_58 h1 hq => ?_)
  obtain ⟨e8, K2, f2, g2, rfl, hO2, t21, t22, t23⟩ := hq
  rw [e8]
  have kX2 : K2 145 = (2, 9, 0) := (hO2 145 (by omega)).1.trans kX1
  have gX2 : g2 145 1 = some 146 := (congrFun (hO2 145 (by omega)).2.2 1).trans gX1
  have kY2 : K2 146 = (2, 8, 0) := (hO2 146 (by omega)).1.trans kY1
  have gL2 : g2 146 0 = some 147 := (congrFun (hO2 146 (by omega)).2.2 0).trans gL1
  have gR2 : g2 146 1 = some 148 := (congrFun (hO2 146 (by omega)).2.2 1).trans gR1
  have kL2 : K2 147 = (2, 1, 0) := (hO2 147 (by omega)).1.trans kL1
  have kR2 : K2 148 = (2, 1, 0) := (hO2 148 (by omega)).1.trans kR1
  have fL2 : f2 147 2 = 0 := (congrFun (hO2 147 (by omega)).2.1 2).trans fL1
  have fR2 : f2 148 2 = 0 := (congrFun (hO2 148 (by omega)).2.1 2).trans fR1
  have fY2 : f2 146 = v0Y := (hO2 146 (by omega)).2.1.trans fY1
  have fX22 : f2 145 2 = 50 := (congrFun (hO2 145 (by omega)).2.1 2).trans fX21
  have fX42 : f2 145 4 = 100 := (congrFun (hO2 145 (by omega)).2.1 4).trans fX41
  refine mj_astore (i := 5) (q := 63) dX7_manyNow_61 rfl (by decide) rfl ?_
  dsimp only [List.set]
  refine mj_aload (i := 5) (q := 65) dX7_manyNow_63 rfl rfl ?_
  refine mj_hasNext (t := n + 1) (a := 148) (q := 70) dX7_manyNow_65 ln_X7_179 (Nat.le_of_ble_eq_true rfl) rfl t21 kR2 t22 t23 fR2 ?_
  refine mj_if_eq (tgt := 111) (q := 73) dX7_manyNow_70 (by decide) rfl (fun c_70 => ?_) (fun c_70 => absurd rfl c_70)
  refine mj_num2 (v := 15) (q := 113) (by decide) dX7_manyNow_111 rfl ?_
  refine mj_newaB (L := 15) (mc := 0) (ms := 0) (q := 115) dX7_manyNow_113 (by decide) (by decide) (by decide) rfl rfl rfl ?_
  refine mj_dup (q := 116) rfl dX7_manyNow_115 rfl ?_
  refine mj_num1 (v := 0) (q := 117) rfl dX7_manyNow_116 rfl ?_
  refine mj_aload_n (i := 0) (q := 118) dX7_manyNow_117 rfl rfl rfl ?_
  refine mj_getr (x := 0) (q := 121) dX7_manyNow_118 fl_X7_12 rfl rfl (by first | assumption | exact mj_rows | ((try dsimp only); rw [mj_rown (by omega)]; assumption)) (by first | assumption | exact mj_rows | ((try dsimp only); rw [mj_rown (by omega)]; assumption)) ?_
  refine mj_getfvN (x := 0) (v := 0) (q := 124) dX7_manyNow_121 fn_X7_125 rfl rfl (by first | assumption | exact mj_rows | ((try dsimp only); rw [mj_rown (by omega)]; assumption)) (by (repeat rw [mj_upr (by omega)]); rw [mj_rown (by omega), fY2]; rfl) ?_
  refine mj_iast (q := 125) dX7_manyNow_124 rfl (by first | assumption | exact mj_rows | ((try dsimp only); rw [mj_rown (by omega)]; assumption)) (by unfold vp_in; decide) ?_
  refine mj_dup (q := 126) rfl dX7_manyNow_125 rfl ?_
  refine mj_num1 (v := 1) (q := 127) rfl dX7_manyNow_126 rfl ?_
  refine mj_aload_n (i := 0) (q := 128) dX7_manyNow_127 rfl rfl rfl ?_
  refine mj_getr (x := 0) (q := 131) dX7_manyNow_128 fl_X7_12 rfl rfl (by first | assumption | exact mj_rows | ((try dsimp only); rw [mj_rown (by omega)]; assumption)) (by first | assumption | exact mj_rows | ((try dsimp only); rw [mj_rown (by omega)]; assumption)) ?_
  refine mj_getrN (x := 0) (q := 134) dX7_manyNow_131 fn_X7_68 rfl rfl (by first | assumption | exact mj_rows | ((try dsimp only); rw [mj_rown (by omega)]; assumption)) (by first | assumption | exact mj_rows | ((try dsimp only); rw [mj_rown (by omega)]; assumption)) ?_
  refine mj_kV0i (K := m_Jx4a65c_size_8abf5) (q := 137) (mc1 := 0) (ms1 := 0) (mc := 0) (ms := 0) dX7_manyNow_134 ln_X7_72 ok_Jx4a65c_size_8abf5 (Nat.le_of_ble_eq_true rfl) (by decide) (mj_rc2 (x := 0) (ci := 1) (by first | assumption | exact mj_rows | ((try dsimp only); rw [mj_rown (by omega)]; assumption)) rfl) rfl rfl rfl (s_size (a := 147) ((mj_rown (by omega)).trans kL2)) (fun r_134 h1 hq => ?_)
  obtain ⟨rfl, rfl⟩ := hq
  refine mj_top (y := 0) (by (repeat rw [mj_upr (by omega)]); rw [mj_rown (by omega)]; exact fL2) ?_
  refine mj_iast (q := 138) dX7_manyNow_137 rfl (by first | assumption | exact mj_rows | ((try dsimp only); rw [mj_rown (by omega)]; assumption)) (by unfold vp_in; decide) ?_
  refine mj_dup (q := 139) rfl dX7_manyNow_138 rfl ?_
  refine mj_num1 (v := 2) (q := 140) rfl dX7_manyNow_139 rfl ?_
  refine mj_aload_n (i := 0) (q := 141) dX7_manyNow_140 rfl rfl rfl ?_
  refine mj_getr (x := 0) (q := 144) dX7_manyNow_141 fl_X7_12 rfl rfl (by first | assumption | exact mj_rows | ((try dsimp only); rw [mj_rown (by omega)]; assumption)) (by first | assumption | exact mj_rows | ((try dsimp only); rw [mj_rown (by omega)]; assumption)) ?_
  refine mj_getrN (x := 0) (q := 147) dX7_manyNow_144 fn_X7_82 rfl rfl (by first | assumption | exact mj_rows | ((try dsimp only); rw [mj_rown (by omega)]; assumption)) (by first | assumption | exact mj_rows | ((try dsimp only); rw [mj_rown (by omega)]; assumption)) ?_
  refine mj_kV0i (K := m_Jx4a65c_size_8abf5) (q := 150) (mc1 := 0) (ms1 := 0) (mc := 0) (ms := 0) dX7_manyNow_147 ln_X7_72 ok_Jx4a65c_size_8abf5 (Nat.le_of_ble_eq_true rfl) (by decide) (mj_rc2 (x := 0) (ci := 1) (by first | assumption | exact mj_rows | ((try dsimp only); rw [mj_rown (by omega)]; assumption)) rfl) rfl rfl rfl (s_size (a := 148) ((mj_rown (by omega)).trans kR2)) (fun r_147 h1 hq => ?_)
  obtain ⟨rfl, rfl⟩ := hq
  refine mj_top (y := 0) (by (repeat rw [mj_upr (by omega)]); rw [mj_rown (by omega)]; exact fR2) ?_
  refine mj_iast (q := 151) dX7_manyNow_150 rfl (by first | assumption | exact mj_rows | ((try dsimp only); rw [mj_rown (by omega)]; assumption)) (by unfold vp_in; decide) ?_
  refine mj_dup (q := 152) rfl dX7_manyNow_151 rfl ?_
  refine mj_num1 (v := 3) (q := 153) rfl dX7_manyNow_152 rfl ?_
  refine mj_iload_n (i := 2) (q := 154) dX7_manyNow_153 rfl rfl rfl ?_
  refine mj_iast (q := 155) dX7_manyNow_154 rfl (by first | assumption | exact mj_rows | ((try dsimp only); rw [mj_rown (by omega)]; assumption)) (by unfold vp_in; decide) ?_
  refine mj_dup (q := 156) rfl dX7_manyNow_155 rfl ?_
  refine mj_num1 (v := 4) (q := 157) rfl dX7_manyNow_156 rfl ?_
  refine mj_aload_n (i := 0) (q := 158) dX7_manyNow_157 rfl rfl rfl ?_
  refine mj_getr (x := 0) (q := 161) dX7_manyNow_158 fl_X7_12 rfl rfl (by first | assumption | exact mj_rows | ((try dsimp only); rw [mj_rown (by omega)]; assumption)) (by first | assumption | exact mj_rows | ((try dsimp only); rw [mj_rown (by omega)]; assumption)) ?_
  refine mj_getfvN (x := 0) (v := 500) (q := 164) dX7_manyNow_161 fn_X7_113 rfl rfl (by first | assumption | exact mj_rows | ((try dsimp only); rw [mj_rown (by omega)]; assumption)) (by (repeat rw [mj_upr (by omega)]); rw [mj_rown (by omega), fY2]; rfl) ?_
  refine mj_iast (q := 165) dX7_manyNow_164 rfl (by first | assumption | exact mj_rows | ((try dsimp only); rw [mj_rown (by omega)]; assumption)) (by unfold vp_in; decide) ?_
  refine mj_dup (q := 166) rfl dX7_manyNow_165 rfl ?_
  refine mj_num1 (v := 5) (q := 167) rfl dX7_manyNow_166 rfl ?_
  refine mj_aload_n (i := 0) (q := 168) dX7_manyNow_167 rfl rfl rfl ?_
  refine mj_getfv (x := 0) (v := 50) (q := 171) dX7_manyNow_168 fl_X7_16 rfl rfl (by first | assumption | exact mj_rows | ((try dsimp only); rw [mj_rown (by omega)]; assumption)) (by (repeat rw [mj_upr (by omega)]); rw [mj_rown (by omega)]; exact fX22) ?_
  refine mj_iast (q := 172) dX7_manyNow_171 rfl (by first | assumption | exact mj_rows | ((try dsimp only); rw [mj_rown (by omega)]; assumption)) (by unfold vp_in; decide) ?_
  refine mj_dup (q := 173) rfl dX7_manyNow_172 rfl ?_
  refine mj_num2 (v := 6) (q := 175) (by decide) dX7_manyNow_173 rfl ?_
  refine mj_aload_n (i := 0) (q := 176) dX7_manyNow_175 rfl rfl rfl ?_
  refine mj_getfv (x := 0) (v := 100) (q := 179) dX7_manyNow_176 fl_X7_20 rfl rfl (by first | assumption | exact mj_rows | ((try dsimp only); rw [mj_rown (by omega)]; assumption)) (by (repeat rw [mj_upr (by omega)]); rw [mj_rown (by omega)]; exact fX42) ?_
  refine mj_iast (q := 180) dX7_manyNow_179 rfl (by first | assumption | exact mj_rows | ((try dsimp only); rw [mj_rown (by omega)]; assumption)) (by unfold vp_in; decide) ?_
  refine mj_dup (q := 181) rfl dX7_manyNow_180 rfl ?_
  refine mj_num2 (v := 7) (q := 183) (by decide) dX7_manyNow_181 rfl ?_
  refine mj_aload_n (i := 0) (q := 184) dX7_manyNow_183 rfl rfl rfl ?_
  refine mj_getr (x := 0) (q := 187) dX7_manyNow_184 fl_X7_12 rfl rfl (by first | assumption | exact mj_rows | ((try dsimp only); rw [mj_rown (by omega)]; assumption)) (by first | assumption | exact mj_rows | ((try dsimp only); rw [mj_rown (by omega)]; assumption)) ?_
  refine mj_getfvN (x := 0) (v := 0) (q := 190) dX7_manyNow_187 fn_X7_116 rfl rfl (by first | assumption | exact mj_rows | ((try dsimp only); rw [mj_rown (by omega)]; assumption)) (by (repeat rw [mj_upr (by omega)]); rw [mj_rown (by omega), fY2]; rfl) ?_
  refine mj_iast (q := 191) dX7_manyNow_190 rfl (by first | assumption | exact mj_rows | ((try dsimp only); rw [mj_rown (by omega)]; assumption)) (by unfold vp_in; decide) ?_
  refine mj_dup (q := 192) rfl dX7_manyNow_191 rfl ?_
  refine mj_num2 (v := 8) (q := 194) (by decide) dX7_manyNow_192 rfl ?_
  refine mj_aload_n (i := 0) (q := 195) dX7_manyNow_194 rfl rfl rfl ?_
  refine mj_getr (x := 0) (q := 198) dX7_manyNow_195 fl_X7_12 rfl rfl (by first | assumption | exact mj_rows | ((try dsimp only); rw [mj_rown (by omega)]; assumption)) (by first | assumption | exact mj_rows | ((try dsimp only); rw [mj_rown (by omega)]; assumption)) ?_
  refine mj_getfvN (x := 0) (v := 0) (q := 201) dX7_manyNow_198 fn_X7_189 rfl rfl (by first | assumption | exact mj_rows | ((try dsimp only); rw [mj_rown (by omega)]; assumption)) (by (repeat rw [mj_upr (by omega)]); rw [mj_rown (by omega), fY2]; rfl) ?_
  refine mj_iast (q := 202) dX7_manyNow_201 rfl (by first | assumption | exact mj_rows | ((try dsimp only); rw [mj_rown (by omega)]; assumption)) (by unfold vp_in; decide) ?_
  refine mj_dup (q := 203) rfl dX7_manyNow_202 rfl ?_
  refine mj_num2 (v := 9) (q := 205) (by decide) dX7_manyNow_203 rfl ?_
  refine mj_aload_n (i := 0) (q := 206) dX7_manyNow_205 rfl rfl rfl ?_
  refine mj_getr (x := 0) (q := 209) dX7_manyNow_206 fl_X7_12 rfl rfl (by first | assumption | exact mj_rows | ((try dsimp only); rw [mj_rown (by omega)]; assumption)) (by first | assumption | exact mj_rows | ((try dsimp only); rw [mj_rown (by omega)]; assumption)) ?_
  refine mj_getfvN (x := 0) (v := 0) (q := 212) dX7_manyNow_209 fn_X7_192 rfl rfl (by first | assumption | exact mj_rows | ((try dsimp only); rw [mj_rown (by omega)]; assumption)) (by (repeat rw [mj_upr (by omega)]); rw [mj_rown (by omega), fY2]; rfl) ?_
  refine mj_iast (q := 213) dX7_manyNow_212 rfl (by first | assumption | exact mj_rows | ((try dsimp only); rw [mj_rown (by omega)]; assumption)) (by unfold vp_in; decide) ?_
  refine mj_dup (q := 214) rfl dX7_manyNow_213 rfl ?_
  refine mj_num2 (v := 10) (q := 216) (by decide) dX7_manyNow_214 rfl ?_
  refine mj_aload_n (i := 0) (q := 217) dX7_manyNow_216 rfl rfl rfl ?_
  refine mj_getr (x := 0) (q := 220) dX7_manyNow_217 fl_X7_12 rfl rfl (by first | assumption | exact mj_rows | ((try dsimp only); rw [mj_rown (by omega)]; assumption)) (by first | assumption | exact mj_rows | ((try dsimp only); rw [mj_rown (by omega)]; assumption)) ?_
  refine mj_getfvN (x := 0) (v := 0) (q := 223) dX7_manyNow_220 fn_X7_195 rfl rfl (by first | assumption | exact mj_rows | ((try dsimp only); rw [mj_rown (by omega)]; assumption)) (by (repeat rw [mj_upr (by omega)]); rw [mj_rown (by omega), fY2]; rfl) ?_
  refine mj_iast (q := 224) dX7_manyNow_223 rfl (by first | assumption | exact mj_rows | ((try dsimp only); rw [mj_rown (by omega)]; assumption)) (by unfold vp_in; decide) ?_
  refine mj_dup (q := 225) rfl dX7_manyNow_224 rfl ?_
  refine mj_num2 (v := 11) (q := 227) (by decide) dX7_manyNow_225 rfl ?_
  refine mj_aload_n (i := 0) (q := 228) dX7_manyNow_227 rfl rfl rfl ?_
  refine mj_getr (x := 0) (q := 231) dX7_manyNow_228 fl_X7_12 rfl rfl (by first | assumption | exact mj_rows | ((try dsimp only); rw [mj_rown (by omega)]; assumption)) (by first | assumption | exact mj_rows | ((try dsimp only); rw [mj_rown (by omega)]; assumption)) ?_
  refine mj_getfvN (x := 0) (v := 0) (q := 234) dX7_manyNow_231 fn_X7_198 rfl rfl (by first | assumption | exact mj_rows | ((try dsimp only); rw [mj_rown (by omega)]; assumption)) (by (repeat rw [mj_upr (by omega)]); rw [mj_rown (by omega), fY2]; rfl) ?_
  refine mj_iast (q := 235) dX7_manyNow_234 rfl (by first | assumption | exact mj_rows | ((try dsimp only); rw [mj_rown (by omega)]; assumption)) (by unfold vp_in; decide) ?_
  refine mj_dup (q := 236) rfl dX7_manyNow_235 rfl ?_
  refine mj_num2 (v := 12) (q := 238) (by decide) dX7_manyNow_236 rfl ?_
  refine mj_iload_n (i := 3) (q := 239) dX7_manyNow_238 rfl rfl rfl ?_
  refine mj_iast (q := 240) dX7_manyNow_239 rfl (by first | assumption | exact mj_rows | ((try dsimp only); rw [mj_rown (by omega)]; assumption)) (by unfold vp_in; decide) ?_
  refine mj_dup (q := 241) rfl dX7_manyNow_240 rfl ?_
  refine mj_num2 (v := 13) (q := 243) (by decide) dX7_manyNow_241 rfl ?_
  refine mj_aload_n (i := 0) (q := 244) dX7_manyNow_243 rfl rfl rfl ?_
  refine mj_getr (x := 0) (q := 247) dX7_manyNow_244 fl_X7_12 rfl rfl (by first | assumption | exact mj_rows | ((try dsimp only); rw [mj_rown (by omega)]; assumption)) (by first | assumption | exact mj_rows | ((try dsimp only); rw [mj_rown (by omega)]; assumption)) ?_
  refine mj_getfvN (x := 0) (v := 0) (q := 250) dX7_manyNow_247 fn_X7_201 rfl rfl (by first | assumption | exact mj_rows | ((try dsimp only); rw [mj_rown (by omega)]; assumption)) (by (repeat rw [mj_upr (by omega)]); rw [mj_rown (by omega), fY2]; rfl) ?_
  refine mj_iast (q := 251) dX7_manyNow_250 rfl (by first | assumption | exact mj_rows | ((try dsimp only); rw [mj_rown (by omega)]; assumption)) (by unfold vp_in; decide) ?_
  refine mj_dup (q := 252) rfl dX7_manyNow_251 rfl ?_
  refine mj_num2 (v := 14) (q := 254) (by decide) dX7_manyNow_252 rfl ?_
  refine mj_iload (i := 4) (q := 256) dX7_manyNow_254 rfl rfl ?_
  refine mj_iast (q := 257) dX7_manyNow_256 rfl (by first | assumption | exact mj_rows | ((try dsimp only); rw [mj_rown (by omega)]; assumption)) (by unfold vp_in; decide) ?_
  refine mj_astore (i := 5) (q := 259) dX7_manyNow_257 rfl (by decide) rfl ?_
  dsimp only [List.set]
  refine mj_aload (i := 5) (q := 261) dX7_manyNow_259 rfl rfl ?_
  refine mj_iload_n (i := 1) (q := 262) dX7_manyNow_261 rfl rfl rfl ?_
  refine mj_iald (q := 263) dX7_manyNow_262 rfl (by first | assumption | exact mj_rows | ((try dsimp only); rw [mj_rown (by omega)]; assumption)) (vp_in_nI hk (by decide)) ?_
  exact mj_ireturn dX7_manyNow_263 ⟨_, rfl, rfl⟩ ⟨_, rfl, ⟨by rw [nI_clamp (by omega)]; rcases (by omega : k = 0 ∨ k = 1 ∨ k = 2 ∨ k = 3 ∨ k = 4 ∨ k = 5 ∨ k = 6 ∨ k = 7 ∨ k = 8 ∨ k = 9 ∨ k = 10 ∨ k = 11 ∨ k = 12 ∨ k = 13 ∨ k = 14) with rfl | rfl | rfl | rfl | rfl | rfl | rfl | rfl | rfl | rfl | rfl | rfl | rfl | rfl | rfl <;> simp [mj_up, mj_row, v_many, tnc_0, tnc_1, tnc_2, tnc_3, tnc_4, tnc_5, tnc_6, tnc_7, tnc_8, tnc_9, tnc_10, tnc_11, tnc_12, tnc_13, tnc_14], _, _, _, _, rfl, by omega, fun z hz => ⟨by rw [mj_rown (by omega), (hO2 z (by omega)).1, (hO1 z hz).1], by (repeat rw [mj_upr (by omega)]); rw [mj_rown (by omega), (hO2 z (by omega)).2.1, (hO1 z hz).2.1], by rw [mj_rown (by omega), (hO2 z (by omega)).2.2, (hO1 z hz).2.2]⟩⟩⟩
set_option maxHeartbeats 100000 in
set_option maxRecDepth 100000 in
theorem r_many {d n k : Nat} {K : Nat → mj_K} {f : Nat → Nat → Int32} {g : Nat → Nat → Option Nat} (kX : K 145 = (2, 9, 0)) (gX : g 145 1 = some 146) (kY : K 146 = (2, 8, 0)) (gL : g 146 0 = some 147) (gR : g 146 1 = some 148) (kL : K 147 = (2, 1, 0)) (kR : K 148 = (2, 1, 0)) (fL : f 147 2 = 0) (fR : f 148 2 = 0) (fY : f 146 = v0Y) (fX2 : f 145 2 = 50) (fX4 : f 145 4 = 100) (hn : 149 < n) (hk : k < 15) : mj_Ri m_X7_many (d + 4) 3 23 [.ref 145, .int (nI k)] (n, K, f, g) (fun r h1 => r = v_many k ∧ ∃ n1 K1 f1 g1, h1 = (n1, K1, f1, g1) ∧ K1 145 = (2, 9, 0) ∧ f1 145 0 = 0 ∧ K1 149 = K 149 ∧ f1 149 = f 149 ∧ K1 0 = K 0) := by
  refine mj_entry (by refine ⟨by decide +kernel, by decide, rfl, Nat.le_of_ble_eq_true rfl⟩) ?_
  show mj_W _ _ _ _ _ 0 [.ref 145, .int (nI k)] [] _
  refine mj_aload_n (i := 0) (q := 1) dX7_many_0 rfl rfl rfl ?_
  refine mj_num1 (v := 0) (q := 2) rfl dX7_many_1 rfl ?_
  refine mj_putf (x := 0) (q := 5) dX7_many_2 fl_X7_23 rfl rfl (by first | assumption | simp [mj_up, mj_upl, mj_row, *]) rfl rfl rfl ?_
  refine mj_iload_n (i := 1) (q := 6) dX7_many_5 rfl rfl rfl ?_
  refine mj_num1 (v := 0) (q := 7) rfl dX7_many_6 rfl ?_
  refine mj_num2 (v := nI 14) (q := 9) (by decide) dX7_many_7 rfl ?_
  refine mj_kS3i (K := m_X7_is) (q := 12) (mc1 := 0) (ms1 := 0) (mc := 3) (ms := 23) dX7_many_9 ln_X7_78 ok_X7_is (Nat.le_of_ble_eq_true rfl) (by decide) rfl rfl rfl (s_is1 (fun z => nI_pos (n := k) (by omega) z) (show nI k ≤ nI 14 from nI_le (by omega) (by omega))) (fun r_9 h1 hq => ?_)
  obtain ⟨rfl, rfl⟩ := hq
  refine mj_if_eq (tgt := 23) (q := 15) dX7_many_12 (by decide) rfl (fun c_12 => absurd c_12 (by decide)) (fun c_12 => ?_)
  refine mj_aload_n (i := 0) (q := 16) dX7_many_15 rfl rfl rfl ?_
  refine mj_iload_n (i := 1) (q := 17) dX7_many_16 rfl rfl rfl ?_
  refine mj_kV1i (K := m_X7_manyNow) (q := 20) (mc1 := 3) (ms1 := 23) (mc := 0) (ms := 0) dX7_many_17 ln_X7_204 ok_X7_manyNow (Nat.le_of_ble_eq_true rfl) (by decide) (mj_rc2 (x := 0) (ci := 9) (by first | assumption | simp [mj_up, mj_upl, mj_row, *]) rfl) rfl rfl rfl (s_manyNow (k := k) kX gX kY gL gR kL kR (by rw [mj_upr (by decide)]; exact fL) (by rw [mj_upr (by decide)]; exact fR) (by rw [mj_upr (by decide)]; exact fY) (by rw [mj_upn (Or.inr (by decide))]; exact fX2) (by rw [mj_upn (Or.inr (by decide))]; exact fX4) hn hk) (fun r_17 h1 hq => ?_)
  obtain ⟨rfl, n1, K1, f1, g1, rfl, q0, hO⟩ := hq
  refine mj_goto (q := 28) dX7_many_20 (by decide) ?_
  exact mj_ireturn dX7_many_28 ⟨_, rfl, rfl⟩ ⟨_, rfl, ⟨rfl, _, _, _, _, rfl, (hO 145 (by omega)).1.trans kX, (congrFun (hO 145 (by omega)).2.1 0).trans mj_ups, (hO 149 hn).1, (hO 149 hn).2.1.trans (mj_upr (by decide)), (hO 0 (by omega)).1⟩⟩
set_option maxHeartbeats 100000 in
set_option maxRecDepth 100000 in
theorem r_meanDepth {d n : Nat} {K : Nat → mj_K} {f : Nat → Nat → Int32} {g : Nat → Nat → Option Nat} (kX : K 145 = (2, 9, 0)) (gX : g 145 1 = some 146) (kY : K 146 = (2, 8, 0)) (gL : g 146 0 = some 147) (gR : g 146 1 = some 148) (kL : K 147 = (2, 1, 0)) (kR : K 148 = (2, 1, 0)) (fL : f 147 2 = 0) (fR : f 148 2 = 0) (fY : f 146 = v0Y) (fX2 : f 145 2 = 50) (fX4 : f 145 4 = 100) (hn : 149 < n) : mj_Rd m_X7_meanDepth (d + 3) 1 4 [.ref 145] (n, K, f, g) (fun r h1 => r = FP.dconst0 ∧ ∃ n1 K1 f1 g1, h1 = (n1, K1, f1, g1) ∧ K1 0 = K 0) := by
  refine mj_entry (by refine ⟨by decide +kernel, by decide, rfl, Nat.le_of_ble_eq_true rfl⟩) ?_
  show mj_W _ _ _ _ _ 0 [.ref 145, .null, .null, .null] [] _
  refine mj_aload_n (i := 0) (q := 1) dX7_meanDepth_0 rfl rfl rfl ?_
  refine mj_num1 (v := 0) (q := 2) rfl dX7_meanDepth_1 rfl ?_
  refine mj_putf (x := 0) (q := 5) dX7_meanDepth_2 fl_X7_23 rfl rfl (by first | assumption | simp [mj_up, mj_upl, mj_row, *]) rfl rfl rfl ?_
  refine mj_num1 (v := 0) (q := 6) rfl dX7_meanDepth_5 rfl ?_
  refine mj_istore_n (i := 1) (q := 7) dX7_meanDepth_6 rfl rfl (by decide) rfl ?_
  dsimp only [List.set]
  refine mj_aload_n (i := 0) (q := 8) dX7_meanDepth_7 rfl rfl rfl ?_
  refine mj_getr (x := 0) (q := 11) dX7_meanDepth_8 fl_X7_12 rfl rfl (by first | assumption | simp [mj_up, mj_upl, mj_row, *]) (by first | assumption | simp [mj_up, mj_upl, mj_row, *]) ?_
  refine mj_getrN (x := 0) (q := 14) dX7_meanDepth_11 fn_X7_82 rfl rfl (by first | assumption | simp [mj_up, mj_upl, mj_row, *]) (by first | assumption | simp [mj_up, mj_upl, mj_row, *]) ?_
  refine mj_kV0r (K := m_Jx4a65c_iterator_32c93) (q := 17) (mc1 := 1) (ms1 := 4) (mc := 0) (ms := 0) dX7_meanDepth_14 ln_X7_175 ok_Jx4a65c_iterator_32c93 (Nat.le_of_ble_eq_true rfl) (by decide) (mj_rc2 (x := 0) (ci := 1) (by first | assumption | simp [mj_up, mj_upl, mj_row, *]) rfl) rfl rfl rfl (s_iter (a := 148) kR (by omega)) (fun r_14 h1 hq => ?_)
  obtain ⟨e9, K1, f1, g1, rfl, hO1, t11, t12, t13⟩ := hq
  rw [e9]
  have kR1 : K1 148 = (2, 1, 0) := (hO1 148 (by omega)).1.trans kR
  have fR1 : f1 148 2 = 0 := (congrFun (hO1 148 (by omega)).2.1 2).trans (by rw [mj_upr (by decide)]; exact fR)
  refine mj_astore_n (i := 2) (q := 18) dX7_meanDepth_17 rfl rfl (by decide) rfl ?_
  dsimp only [List.set]
  refine mj_aload_n (i := 2) (q := 19) dX7_meanDepth_18 rfl rfl rfl ?_
  refine mj_hasNext (t := n) (a := 148) (q := 24) dX7_meanDepth_19 ln_X7_179 (Nat.le_of_ble_eq_true rfl) rfl t11 kR1 t12 t13 fR1 ?_
  refine mj_if_eq (tgt := 46) (q := 27) dX7_meanDepth_24 (by decide) rfl (fun c_24 => ?_) (fun c_24 => absurd rfl c_24)
  refine mj_iload_n (i := 1) (q := 47) dX7_meanDepth_46 rfl rfl rfl ?_
  refine mj_if_ne (tgt := 54) (q := 50) dX7_meanDepth_47 (by decide) rfl (fun c_47 => absurd rfl c_47) (fun c_47 => ?_)
  refine mj_dconst0 (q := 51) dX7_meanDepth_50 rfl ?_
  refine mj_goto (q := 64) dX7_meanDepth_51 (by decide) ?_
  exact mj_dreturn dX7_meanDepth_64 rfl ⟨_, rfl, ⟨rfl, _, _, _, _, rfl, (hO1 0 (by omega)).1⟩⟩
set_option maxHeartbeats 100000 in
set_option maxRecDepth 100000 in
theorem s_nextNow {d n : Nat} {K : Nat → mj_K} {f : Nat → Nat → Int32} {g : Nat → Nat → Option Nat} (kX : K 145 = (2, 9, 0)) (gX : g 145 1 = some 146) (kY : K 146 = (2, 8, 0)) (gL : g 146 0 = some 147) (gR : g 146 1 = some 148) (kL : K 147 = (2, 1, 0)) (kR : K 148 = (2, 1, 0)) (fL : f 147 2 = 0) (fR : f 148 2 = 0) (fY : f 146 = v0Y) (fX2 : f 145 2 = 50) (fX4 : f 145 4 = 100) : mj_Ri m_X7_nextNow (d + 2) 0 0 [.ref 145] (n, K, f, g) (fun r h1 => r = -1 ∧ h1 = (n, K, f, g)) := by
  refine mj_entry (by refine ⟨by decide +kernel, by decide, rfl, Nat.le_of_ble_eq_true rfl⟩) ?_
  show mj_W _ _ _ _ _ 0 [.ref 145, .null, .null, .null] [] _
  refine mj_num1 (v := (-1)) (q := 1) rfl dX7_nextNow_0 rfl ?_
  refine mj_istore_n (i := 1) (q := 2) dX7_nextNow_1 rfl rfl (by decide) rfl ?_
  dsimp only [List.set]
  refine mj_num1 (v := 0) (q := 3) rfl dX7_nextNow_2 rfl ?_
  refine mj_istore_n (i := 2) (q := 4) dX7_nextNow_3 rfl rfl (by decide) rfl ?_
  dsimp only [List.set]
  refine mj_iload_n (i := 2) (q := 5) dX7_nextNow_4 rfl rfl rfl ?_
  refine mj_aload_n (i := 0) (q := 6) dX7_nextNow_5 rfl rfl rfl ?_
  refine mj_getr (x := 0) (q := 9) dX7_nextNow_6 fl_X7_12 rfl rfl (by first | assumption | simp [mj_up, mj_upl, mj_row, *]) (by first | assumption | simp [mj_up, mj_upl, mj_row, *]) ?_
  refine mj_getrN (x := 0) (q := 12) dX7_nextNow_9 fn_X7_82 rfl rfl (by first | assumption | simp [mj_up, mj_upl, mj_row, *]) (by first | assumption | simp [mj_up, mj_upl, mj_row, *]) ?_
  refine mj_kV0i (K := m_Jx4a65c_size_8abf5) (q := 15) (mc1 := 0) (ms1 := 0) (mc := 0) (ms := 0) dX7_nextNow_12 ln_X7_72 ok_Jx4a65c_size_8abf5 (Nat.le_of_ble_eq_true rfl) (by decide) (mj_rc2 (x := 0) (ci := 1) (by first | assumption | simp [mj_up, mj_upl, mj_row, *]) rfl) rfl rfl rfl (s_size (a := 148) kR) (fun r_12 h1 hq => ?_)
  obtain ⟨rfl, rfl⟩ := hq
  rw [fR]
  refine mj_icmp_ge (tgt := 78) (q := 18) dX7_nextNow_15 (by decide) rfl (fun c_15 => ?_) (fun c_15 => absurd (Int32.le_refl _) c_15)
  refine mj_iload_n (i := 1) (q := 79) dX7_nextNow_78 rfl rfl rfl ?_
  exact mj_ireturn dX7_nextNow_79 ⟨_, rfl, rfl⟩ ⟨_, rfl, ⟨rfl, rfl⟩⟩
set_option maxHeartbeats 100000 in
set_option maxRecDepth 100000 in
theorem s_couldNow {d n : Nat} {K : Nat → mj_K} {f : Nat → Nat → Int32} {g : Nat → Nat → Option Nat} (kX : K 145 = (2, 9, 0)) (gX : g 145 1 = some 146) (kY : K 146 = (2, 8, 0)) (gL : g 146 0 = some 147) (gR : g 146 1 = some 148) (kL : K 147 = (2, 1, 0)) (kR : K 148 = (2, 1, 0)) (fL : f 147 2 = 0) (fR : f 148 2 = 0) (fY : f 146 = v0Y) (fX2 : f 145 2 = 50) (fX4 : f 145 4 = 100) : mj_Ri m_X7_couldNow (d + 2) 0 0 [.ref 145] (n, K, f, g) (fun r h1 => r = 0 ∧ h1 = (n, K, f, g)) := by
  refine mj_entry (by refine ⟨by decide +kernel, by decide, rfl, Nat.le_of_ble_eq_true rfl⟩) ?_
  show mj_W _ _ _ _ _ 0 [.ref 145, .null, .null, .null] [] _
  refine mj_num1 (v := 0) (q := 1) rfl dX7_couldNow_0 rfl ?_
  refine mj_istore_n (i := 1) (q := 2) dX7_couldNow_1 rfl rfl (by decide) rfl ?_
  dsimp only [List.set]
  refine mj_num1 (v := 0) (q := 3) rfl dX7_couldNow_2 rfl ?_
  refine mj_istore_n (i := 2) (q := 4) dX7_couldNow_3 rfl rfl (by decide) rfl ?_
  dsimp only [List.set]
  refine mj_iload_n (i := 2) (q := 5) dX7_couldNow_4 rfl rfl rfl ?_
  refine mj_aload_n (i := 0) (q := 6) dX7_couldNow_5 rfl rfl rfl ?_
  refine mj_getr (x := 0) (q := 9) dX7_couldNow_6 fl_X7_12 rfl rfl (by first | assumption | simp [mj_up, mj_upl, mj_row, *]) (by first | assumption | simp [mj_up, mj_upl, mj_row, *]) ?_
  refine mj_getrN (x := 0) (q := 12) dX7_couldNow_9 fn_X7_82 rfl rfl (by first | assumption | simp [mj_up, mj_upl, mj_row, *]) (by first | assumption | simp [mj_up, mj_upl, mj_row, *]) ?_
  refine mj_kV0i (K := m_Jx4a65c_size_8abf5) (q := 15) (mc1 := 0) (ms1 := 0) (mc := 0) (ms := 0) dX7_couldNow_12 ln_X7_72 ok_Jx4a65c_size_8abf5 (Nat.le_of_ble_eq_true rfl) (by decide) (mj_rc2 (x := 0) (ci := 1) (by first | assumption | simp [mj_up, mj_upl, mj_row, *]) rfl) rfl rfl rfl (s_size (a := 148) kR) (fun r_12 h1 hq => ?_)
  obtain ⟨rfl, rfl⟩ := hq
  rw [fR]
  refine mj_icmp_ge (tgt := 71) (q := 18) dX7_couldNow_15 (by decide) rfl (fun c_15 => ?_) (fun c_15 => absurd (Int32.le_refl _) c_15)
  refine mj_iload_n (i := 1) (q := 72) dX7_couldNow_71 rfl rfl rfl ?_
  exact mj_ireturn dX7_couldNow_72 ⟨_, rfl, rfl⟩ ⟨_, rfl, ⟨rfl, rfl⟩⟩
set_option maxHeartbeats 100000 in
set_option maxRecDepth 100000 in
theorem r_nextBlast {d n : Nat} {K : Nat → mj_K} {f : Nat → Nat → Int32} {g : Nat → Nat → Option Nat} (kX : K 145 = (2, 9, 0)) (gX : g 145 1 = some 146) (kY : K 146 = (2, 8, 0)) (gL : g 146 0 = some 147) (gR : g 146 1 = some 148) (kL : K 147 = (2, 1, 0)) (kR : K 148 = (2, 1, 0)) (fL : f 147 2 = 0) (fR : f 148 2 = 0) (fY : f 146 = v0Y) (fX2 : f 145 2 = 50) (fX4 : f 145 4 = 100) : mj_Ri m_X7_nextBlast (d + 3) 0 0 [.ref 145] (n, K, f, g) (fun r h1 => r = -1 ∧ ∃ n1 K1 f1 g1, h1 = (n1, K1, f1, g1) ∧ K1 0 = K 0) := by
  refine mj_entry (by refine ⟨by decide +kernel, by decide, rfl, Nat.le_of_ble_eq_true rfl⟩) ?_
  show mj_W _ _ _ _ _ 0 [.ref 145] [] _
  refine mj_aload_n (i := 0) (q := 1) dX7_nextBlast_0 rfl rfl rfl ?_
  refine mj_num1 (v := 0) (q := 2) rfl dX7_nextBlast_1 rfl ?_
  refine mj_putf (x := 0) (q := 5) dX7_nextBlast_2 fl_X7_23 rfl rfl (by first | assumption | simp [mj_up, mj_upl, mj_row, *]) rfl rfl rfl ?_
  refine mj_aload_n (i := 0) (q := 6) dX7_nextBlast_5 rfl rfl rfl ?_
  refine mj_kV0i (K := m_X7_nextNow) (q := 9) (mc1 := 0) (ms1 := 0) (mc := 0) (ms := 0) dX7_nextBlast_6 ln_X7_229 ok_X7_nextNow (Nat.le_of_ble_eq_true rfl) (by decide) (mj_rc2 (x := 0) (ci := 9) (by first | assumption | simp [mj_up, mj_upl, mj_row, *]) rfl) rfl rfl rfl (s_nextNow kX gX kY gL gR kL kR (by rw [mj_upr (by decide)]; exact fL) (by rw [mj_upr (by decide)]; exact fR) (by rw [mj_upr (by decide)]; exact fY) (by rw [mj_upn (Or.inr (by decide))]; exact fX2) (by rw [mj_upn (Or.inr (by decide))]; exact fX4)) (fun r_6 h1 hq => ?_)
  obtain ⟨rfl, rfl⟩ := hq
  exact mj_ireturn dX7_nextBlast_9 ⟨_, rfl, rfl⟩ ⟨_, rfl, ⟨rfl, _, _, _, _, rfl, rfl⟩⟩
set_option maxHeartbeats 100000 in
set_option maxRecDepth 100000 in
theorem r_couldOpen {d n : Nat} {K : Nat → mj_K} {f : Nat → Nat → Int32} {g : Nat → Nat → Option Nat} (kX : K 145 = (2, 9, 0)) (gX : g 145 1 = some 146) (kY : K 146 = (2, 8, 0)) (gL : g 146 0 = some 147) (gR : g 146 1 = some 148) (kL : K 147 = (2, 1, 0)) (kR : K 148 = (2, 1, 0)) (fL : f 147 2 = 0) (fR : f 148 2 = 0) (fY : f 146 = v0Y) (fX2 : f 145 2 = 50) (fX4 : f 145 4 = 100) : mj_Ri m_X7_couldOpen (d + 3) 0 0 [.ref 145] (n, K, f, g) (fun r h1 => r = 0 ∧ ∃ n1 K1 f1 g1, h1 = (n1, K1, f1, g1) ∧ K1 0 = K 0) := by
  refine mj_entry (by refine ⟨by decide +kernel, by decide, rfl, Nat.le_of_ble_eq_true rfl⟩) ?_
  show mj_W _ _ _ _ _ 0 [.ref 145] [] _
  refine mj_aload_n (i := 0) (q := 1) dX7_couldOpen_0 rfl rfl rfl ?_
  refine mj_num1 (v := 0) (q := 2) rfl dX7_couldOpen_1 rfl ?_
  refine mj_putf (x := 0) (q := 5) dX7_couldOpen_2 fl_X7_23 rfl rfl (by first | assumption | simp [mj_up, mj_upl, mj_row, *]) rfl rfl rfl ?_
  refine mj_aload_n (i := 0) (q := 6) dX7_couldOpen_5 rfl rfl rfl ?_
  refine mj_kV0i (K := m_X7_couldNow) (q := 9) (mc1 := 0) (ms1 := 0) (mc := 0) (ms := 0) dX7_couldOpen_6 ln_X7_232 ok_X7_couldNow (Nat.le_of_ble_eq_true rfl) (by decide) (mj_rc2 (x := 0) (ci := 9) (by first | assumption | simp [mj_up, mj_upl, mj_row, *]) rfl) rfl rfl rfl (s_couldNow kX gX kY gL gR kL kR (by rw [mj_upr (by decide)]; exact fL) (by rw [mj_upr (by decide)]; exact fR) (by rw [mj_upr (by decide)]; exact fY) (by rw [mj_upn (Or.inr (by decide))]; exact fX2) (by rw [mj_upn (Or.inr (by decide))]; exact fX4)) (fun r_6 h1 hq => ?_)
  obtain ⟨rfl, rfl⟩ := hq
  exact mj_ireturn dX7_couldOpen_9 ⟨_, rfl, rfl⟩ ⟨_, rfl, ⟨rfl, _, _, _, _, rfl, rfl⟩⟩
def v_at (f : Nat → Nat → Int32) : Int64 := mj_lg (f 145 6) (f 145 70)
set_option maxHeartbeats 100000 in
set_option maxRecDepth 100000 in
theorem s_plus {d n : Nat} {v : Int32} {K : Nat → mj_K} {f : Nat → Nat → Int32} {g : Nat → Nat → Option Nat} (kX : K 145 = (2, 9, 0)) : mj_Rv m_X7_add_ (d + 1) 0 0 [.ref 145, .int v] (n, K, f, g) (fun h1 => ∃ f1, h1 = (n, K, f1, g) ∧ v_at f1 = v_at f * 31 + v.toInt64 ∧ (∀ z, z ≠ 145 → f1 z = f z) ∧ ∀ j, j ≠ 6 → j ≠ 70 → f1 145 j = f 145 j) := by
  refine mj_entry (by refine ⟨by decide +kernel, by decide, rfl, Nat.le_of_ble_eq_true rfl⟩) ?_
  show mj_W _ _ _ _ _ 0 [.ref 145, .int v] [] _
  refine mj_aload_n (i := 0) (q := 1) dX7_add__0 rfl rfl rfl ?_
  refine mj_aload_n (i := 0) (q := 2) dX7_add__1 rfl rfl rfl ?_
  refine mj_getl (x := 0) (q := 5) dX7_add__2 fl_X7_235 rfl rfl (by first | assumption | simp [mj_up, mj_upl, mj_row, *]) ?_
  refine mj_ldc2 (q := 8) dX7_add__5 ct_X7_239 rfl ?_
  refine mj_lmul (q := 9) dX7_add__8 rfl ?_
  refine mj_iload_n (i := 1) (q := 10) dX7_add__9 rfl rfl rfl ?_
  refine mj_i2l (q := 11) dX7_add__10 rfl ?_
  refine mj_ladd (q := 12) dX7_add__11 rfl ?_
  refine mj_putl (x := 0) (q := 15) dX7_add__12 fl_X7_235 rfl rfl (by first | assumption | simp [mj_up, mj_upl, mj_row, *]) rfl rfl rfl ?_
  exact mj_return dX7_add__15 rfl ⟨rfl, ⟨_, rfl, mj_upl_get _ _ _ _, fun z hz => by unfold mj_upl; rw [mj_upr hz, mj_upr hz], fun j j1 j2 => by unfold mj_upl; rw [mj_upn (Or.inr j2), mj_upn (Or.inr j1)]⟩⟩
set_option maxHeartbeats 100000 in
set_option maxRecDepth 100000 in
theorem r_digest {d n : Nat} {K : Nat → mj_K} {f : Nat → Nat → Int32} {g : Nat → Nat → Option Nat} (kX : K 145 = (2, 9, 0)) (gX : g 145 1 = some 146) (kY : K 146 = (2, 8, 0)) (gL : g 146 0 = some 147) (gR : g 146 1 = some 148) (kL : K 147 = (2, 1, 0)) (kR : K 148 = (2, 1, 0)) (fL : f 147 2 = 0) (fR : f 148 2 = 0) (fY : f 146 = v0Y) (fX2 : f 145 2 = 50) (fX4 : f 145 4 = 100) (hn : 149 < n) : mj_Rl m_X7_digest (d + 4) 45 345 [.ref 145] (n, K, f, g) (fun r h1 => r = v_dig ∧ ∃ n1 K1 f1 g1, h1 = (n1, K1, f1, g1) ∧ K1 0 = K 0) := by
  have loop : ∀ (j i m : Nat) (K1 : Nat → mj_K) (f1 : Nat → Nat → Int32) (g1 : Nat → Nat → Option Nat), i + j = 15 → 149 < m → K1 145 = (2, 9, 0) → g1 145 1 = some 146 → K1 146 = (2, 8, 0) → g1 146 0 = some 147 → g1 146 1 = some 148 → K1 147 = (2, 1, 0) → K1 148 = (2, 1, 0) → f1 147 2 = 0 → f1 148 2 = 0 → f1 146 = v0Y → f1 145 2 = 50 → f1 145 4 = 100 → v_at f1 = v_sum i → K1 0 = K 0 → mj_W m_X7_digest (d + 4) (3 * j) (23 * j) (fun v h1 => ∃ r, v = some (.long r) ∧ (fun r h1 => r = v_dig ∧ ∃ n1 K1 f1 g1, h1 = (n1, K1, f1, g1) ∧ K1 0 = K 0) r h1, fun _ _ => False) 14 [.ref 145, .int (nI i), .null, .null] [] (m, K1, f1, g1) := by
    intro j
    induction j with
    | zero =>
      intro i m K1 f1 g1 hi hm kX1 gX1 kY1 gL1 gR1 kL1 kR1 fL1 fR1 fY1 fX21 fX41 hs h0
      have hi : i = 15 := by omega
      subst hi
      show mj_W _ _ 0 0 _ _ _ _ _
      refine mj_iload_n (i := 1) (q := 15) dX7_digest_14 rfl rfl rfl ?_
      refine mj_num2 (v := 15) (q := 17) (by decide) dX7_digest_15 rfl ?_
      refine mj_icmp_ge (tgt := 35) (q := 20) dX7_digest_17 (by decide) rfl (fun c_17 => ?_) (fun c_17 => absurd (by decide) c_17)
      refine mj_num1 (v := 0) (q := 36) rfl dX7_digest_35 rfl ?_
      refine mj_istore_n (i := 1) (q := 37) dX7_digest_36 rfl rfl (by decide) rfl ?_
      dsimp only [List.set]
      refine mj_iload_n (i := 1) (q := 38) dX7_digest_37 rfl rfl rfl ?_
      refine mj_aload_n (i := 0) (q := 39) dX7_digest_38 rfl rfl rfl ?_
      refine mj_getr (x := 0) (q := 42) dX7_digest_39 fl_X7_12 rfl rfl (by first | assumption | exact kX1) (by first | assumption | exact kX1) ?_
      refine mj_getrN (x := 0) (q := 45) dX7_digest_42 fn_X7_82 rfl rfl (by first | assumption | exact kX1) (by first | assumption | exact kX1) ?_
      refine mj_kV0i (K := m_Jx4a65c_size_8abf5) (q := 48) (mc1 := 0) (ms1 := 0) (mc := 0) (ms := 0) dX7_digest_45 ln_X7_72 ok_Jx4a65c_size_8abf5 (Nat.le_of_ble_eq_true rfl) (by decide) (mj_rc2 (x := 0) (ci := 1) (by first | assumption | exact kX1) rfl) rfl rfl rfl (s_size (a := 148) kR1) (fun r_45 h1 hq => ?_)
      obtain ⟨rfl, rfl⟩ := hq
      rw [fR1]
      refine mj_icmp_ge (tgt := 144) (q := 51) dX7_digest_48 (by decide) rfl (fun c_48 => ?_) (fun c_48 => absurd (Int32.le_refl _) c_48)
      refine mj_num1 (v := 0) (q := 145) rfl dX7_digest_144 rfl ?_
      refine mj_istore_n (i := 1) (q := 146) dX7_digest_145 rfl rfl (by decide) rfl ?_
      dsimp only [List.set]
      refine mj_iload_n (i := 1) (q := 147) dX7_digest_146 rfl rfl rfl ?_
      refine mj_aload_n (i := 0) (q := 148) dX7_digest_147 rfl rfl rfl ?_
      refine mj_getr (x := 0) (q := 151) dX7_digest_148 fl_X7_12 rfl rfl (by first | assumption | exact kX1) (by first | assumption | exact kX1) ?_
      refine mj_getrN (x := 0) (q := 154) dX7_digest_151 fn_X7_68 rfl rfl (by first | assumption | exact kX1) (by first | assumption | exact kX1) ?_
      refine mj_kV0i (K := m_Jx4a65c_size_8abf5) (q := 157) (mc1 := 0) (ms1 := 0) (mc := 0) (ms := 0) dX7_digest_154 ln_X7_72 ok_Jx4a65c_size_8abf5 (Nat.le_of_ble_eq_true rfl) (by decide) (mj_rc2 (x := 0) (ci := 1) (by first | assumption | exact kX1) rfl) rfl rfl rfl (s_size (a := 147) kL1) (fun r_154 h1 hq => ?_)
      obtain ⟨rfl, rfl⟩ := hq
      rw [fL1]
      refine mj_icmp_ge (tgt := 190) (q := 160) dX7_digest_157 (by decide) rfl (fun c_157 => ?_) (fun c_157 => absurd (Int32.le_refl _) c_157)
      refine mj_aload_n (i := 0) (q := 191) dX7_digest_190 rfl rfl rfl ?_
      refine mj_aload_n (i := 0) (q := 192) dX7_digest_191 rfl rfl rfl ?_
      refine mj_kV0i (K := m_X7_nextNow) (q := 195) (mc1 := 0) (ms1 := 0) (mc := 0) (ms := 0) dX7_digest_192 ln_X7_229 ok_X7_nextNow (Nat.le_of_ble_eq_true rfl) (by decide) (mj_rc2 (x := 0) (ci := 9) (by first | assumption | exact kX1) rfl) rfl rfl rfl (s_nextNow kX1 gX1 kY1 gL1 gR1 kL1 kR1 fL1 fR1 fY1 fX21 fX41) (fun r_192 h1 hq => ?_)
      obtain ⟨rfl, rfl⟩ := hq
      refine mj_kV1v (K := m_X7_add_) (q := 198) (mc1 := 0) (ms1 := 0) (mc := 0) (ms := 0) dX7_digest_195 ln_X7_243 ok_X7_add_ (Nat.le_of_ble_eq_true rfl) (by decide) (mj_rc2 (x := 0) (ci := 9) (by first | assumption | exact kX1) rfl) rfl rfl rfl (s_plus kX1) (fun h1 hq => ?_)
      obtain ⟨f2, rfl, s2, z2, y2⟩ := hq
      refine mj_aload_n (i := 0) (q := 199) dX7_digest_198 rfl rfl rfl ?_
      refine mj_aload_n (i := 0) (q := 200) dX7_digest_199 rfl rfl rfl ?_
      refine mj_kV0i (K := m_X7_couldNow) (q := 203) (mc1 := 0) (ms1 := 0) (mc := 0) (ms := 0) dX7_digest_200 ln_X7_232 ok_X7_couldNow (Nat.le_of_ble_eq_true rfl) (by decide) (mj_rc2 (x := 0) (ci := 9) (by first | assumption | exact kX1) rfl) rfl rfl rfl (s_couldNow kX1 gX1 kY1 gL1 gR1 kL1 kR1 ((congrFun (z2 147 (by decide)) 2).trans fL1) ((congrFun (z2 148 (by decide)) 2).trans fR1) ((z2 146 (by decide)).trans fY1) ((y2 2 (by decide) (by decide)).trans fX21) ((y2 4 (by decide) (by decide)).trans fX41)) (fun r_200 h1 hq => ?_)
      obtain ⟨rfl, rfl⟩ := hq
      refine mj_kV1v (K := m_X7_add_) (q := 206) (mc1 := 0) (ms1 := 0) (mc := 0) (ms := 0) dX7_digest_203 ln_X7_243 ok_X7_add_ (Nat.le_of_ble_eq_true rfl) (by decide) (mj_rc2 (x := 0) (ci := 9) (by first | assumption | exact kX1) rfl) rfl rfl rfl (s_plus kX1) (fun h1 hq => ?_)
      obtain ⟨f3, rfl, s3, z3, y3⟩ := hq
      refine mj_aload_n (i := 0) (q := 207) dX7_digest_206 rfl rfl rfl ?_
      refine mj_getl (x := 0) (q := 210) dX7_digest_207 fl_X7_235 rfl rfl (by first | assumption | exact kX1) ?_
      refine mj_lreturn dX7_digest_210 rfl ⟨_, rfl, ?_, _, _, _, _, rfl, h0⟩
      show v_at f3 = v_dig
      rw [s3, s2, hs]
      rfl
    | succ j ih =>
      intro i m K1 f1 g1 hi hm kX1 gX1 kY1 gL1 gR1 kL1 kR1 fL1 fR1 fY1 fX21 fX41 hs h0
      refine mj_iload_n (i := 1) (q := 15) dX7_digest_14 rfl rfl rfl ?_
      refine mj_num2 (v := nI 15) (q := 17) (by decide) dX7_digest_15 rfl ?_
      refine mj_icmp_ge (tgt := 35) (q := 20) dX7_digest_17 (by decide) rfl (fun c_17 => absurd (show nI 15 ≤ nI i from c_17) (Int32.not_le.mpr (nI_lt (a := i) (b := 15) (by omega) (by omega)))) (fun c_17 => ?_)
      refine mj_aload_n (i := 0) (q := 21) dX7_digest_20 rfl rfl rfl ?_
      refine mj_aload_n (i := 0) (q := 22) dX7_digest_21 rfl rfl rfl ?_
      refine mj_iload_n (i := 1) (q := 23) dX7_digest_22 rfl rfl rfl ?_
      refine mj_kV1i (K := m_X7_manyNow) (q := 26) (mc1 := 3) (ms1 := 23) (mc := 3 * j) (ms := 23 * j) dX7_digest_23 ln_X7_204 ok_X7_manyNow (Nat.le_of_ble_eq_true rfl) (by decide) (mj_rc2 (x := 0) (ci := 9) (by first | assumption) rfl) rfl (by omega) (by omega) (s_manyNow (k := i) kX1 gX1 kY1 gL1 gR1 kL1 kR1 fL1 fR1 fY1 fX21 fX41 hm (by omega)) (fun r_23 h1 hq => ?_)
      obtain ⟨rfl, m2, K2, f2, g2, rfl, q0, hO⟩ := hq
      have kX2 : K2 145 = (2, 9, 0) := (hO 145 (by omega)).1.trans kX1
      have gX2 : g2 145 1 = some 146 := (congrFun (hO 145 (by omega)).2.2 1).trans gX1
      have kY2 : K2 146 = (2, 8, 0) := (hO 146 (by omega)).1.trans kY1
      have gL2 : g2 146 0 = some 147 := (congrFun (hO 146 (by omega)).2.2 0).trans gL1
      have gR2 : g2 146 1 = some 148 := (congrFun (hO 146 (by omega)).2.2 1).trans gR1
      have kL2 : K2 147 = (2, 1, 0) := (hO 147 (by omega)).1.trans kL1
      have kR2 : K2 148 = (2, 1, 0) := (hO 148 (by omega)).1.trans kR1
      have fL2 : f2 147 2 = 0 := (congrFun (hO 147 (by omega)).2.1 2).trans fL1
      have fR2 : f2 148 2 = 0 := (congrFun (hO 148 (by omega)).2.1 2).trans fR1
      have fY2 : f2 146 = v0Y := (hO 146 (by omega)).2.1.trans fY1
      have fX22 : f2 145 2 = 50 := (congrFun (hO 145 (by omega)).2.1 2).trans fX21
      have fX42 : f2 145 4 = 100 := (congrFun (hO 145 (by omega)).2.1 4).trans fX41
      refine mj_kV1v (K := m_X7_add_) (q := 29) (mc1 := 0) (ms1 := 0) (mc := 3 * j) (ms := 23 * j) dX7_digest_26 ln_X7_243 ok_X7_add_ (Nat.le_of_ble_eq_true rfl) (by decide) (mj_rc2 (x := 0) (ci := 9) (by first | assumption) rfl) rfl (by omega) (by omega) (s_plus kX2) (fun h1 hq => ?_)
      obtain ⟨f3, rfl, s3, z3, y3⟩ := hq
      have e2 : v_at f2 = v_at f1 := by unfold v_at; rw [(hO 145 (by omega)).2.1]
      have e9 : mj_W m_X7_digest (d + 4) (3 * j) (23 * j) (fun v h1 => ∃ r, v = some (.long r) ∧ (fun r h1 => r = v_dig ∧ ∃ n1 K1 f1 g1, h1 = (n1, K1, f1, g1) ∧ K1 0 = K 0) r h1, fun _ _ => False) 14 [.ref 145, .int (nI (i + 1)), .null, .null] [] (m2, K2, f3, g2) := ih (i + 1) m2 K2 f3 g2 (by omega) (by omega) kX2 gX2 kY2 gL2 gR2 kL2 kR2 ((congrFun (z3 147 (by decide)) 2).trans fL2) ((congrFun (z3 148 (by decide)) 2).trans fR2) ((z3 146 (by decide)).trans fY2) ((y3 2 (by decide) (by decide)).trans fX22) ((y3 4 (by decide) (by decide)).trans fX42) (by rw [s3, e2, hs]; rfl) ((hO 0 (by omega)).1.trans h0)
      refine mj_iinc (i := 1) (q := 32) dX7_digest_29 rfl rfl (by decide) rfl ?_
      dsimp only [List.set]
      refine mj_goto (q := 14) dX7_digest_32 (by decide) ?_
      rw [show nI i + Int32.ofInt 1 = nI (i + 1) from nI_1 i]
      exact e9
  refine mj_entry (by refine ⟨by decide +kernel, by decide, rfl, Nat.le_of_ble_eq_true rfl⟩) ?_
  show mj_W _ _ _ _ _ 0 [.ref 145, .null, .null, .null] [] _
  refine mj_aload_n (i := 0) (q := 1) dX7_digest_0 rfl rfl rfl ?_
  refine mj_num1 (v := 0) (q := 2) rfl dX7_digest_1 rfl ?_
  refine mj_putf (x := 0) (q := 5) dX7_digest_2 fl_X7_23 rfl rfl (by first | assumption | simp [mj_up, mj_upl, mj_row, *]) rfl rfl rfl ?_
  refine mj_aload_n (i := 0) (q := 6) dX7_digest_5 rfl rfl rfl ?_
  refine mj_ldc2 (q := 9) dX7_digest_6 ct_X7_241 rfl ?_
  refine mj_putl (x := 0) (q := 12) dX7_digest_9 fl_X7_235 rfl rfl (by first | assumption | simp [mj_up, mj_upl, mj_row, *]) rfl rfl rfl ?_
  refine mj_num1 (v := nI 0) (q := 13) (by decide) dX7_digest_12 rfl ?_
  refine mj_istore_n (i := 1) (q := 14) dX7_digest_13 rfl rfl (by decide) rfl ?_
  dsimp only [List.set]
  exact loop 15 0 n K _ g (by omega) hn kX gX kY gL gR kL kR (by unfold mj_upl; rw [mj_upr (by decide), mj_upr (by decide), mj_upr (by decide)]; exact fL) (by unfold mj_upl; rw [mj_upr (by decide), mj_upr (by decide), mj_upr (by decide)]; exact fR) (by unfold mj_upl; rw [mj_upr (by decide), mj_upr (by decide), mj_upr (by decide)]; exact fY) (by unfold mj_upl; rw [mj_upn (Or.inr (by decide)), mj_upn (Or.inr (by decide)), mj_upn (Or.inr (by decide))]; exact fX2) (by unfold mj_upl; rw [mj_upn (Or.inr (by decide)), mj_upn (Or.inr (by decide)), mj_upn (Or.inr (by decide))]; exact fX4) (mj_upl_get _ _ _ _) rfl
