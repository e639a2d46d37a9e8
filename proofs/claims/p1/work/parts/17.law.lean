/-! THE LAW: its cases -/
abbrev m_law : mj_M := (yL_law, cL_law, 9, some .boolean, RL, false, [])
def lw_QL : mj_Q := (fun v _ => v = some (.int 1), fun _ _ => False)
def lw_F (K : Nat → mj_K) (f : Nat → Nat → Int32) (g : Nat → Nat → Option Nat) : Prop := K 2 = (2, 7, 0) ∧ g 2 0 = some 3 ∧ g 2 3 = some 144 ∧ K 3 = (2, 3, 0) ∧ g 3 0 = some 4 ∧ K 4 = (1, 4, 2) ∧ g 4 0 = some 5 ∧ K 5 = (2, 2, 0) ∧ f 3 = v0M ∧ K 144 = (2, 6, 0) ∧ K 145 = (2, 9, 0) ∧ g 145 1 = some 146 ∧ f 145 2 = 50 ∧ f 145 4 = 100 ∧ K 146 = (2, 8, 0) ∧ g 146 0 = some 147 ∧ g 146 1 = some 148 ∧ f 146 = v0Y ∧ K 147 = (2, 1, 0) ∧ f 147 2 = 0 ∧ g 147 1 = some 1 ∧ K 148 = (2, 1, 0) ∧ f 148 2 = 0 ∧ K 149 = (4, 1, 0)
theorem mj_sldv {M : mj_M} {d mc ms : Nat} {Q : mj_Q} {pc q : Nat} {lv st : List Value} {n : Nat} {K : Nat → mj_K} {f : Nat → Nat → Int32} {g : Nat → Nat → Option Nat} {L k : Nat} {i v : Int32} (hd : decode M.2.1 pc = .ok (.iaload, 1)) (hq : pc + 1 = q) (hK : K 0 = (3, L, 0)) (hin : vp_in i L) (hk : i.toNatClampNeg = k) (hv : f 0 k = v)
    (k : mj_W M d mc ms Q q lv (.int v :: st) (n, K, f, g)) : mj_W M d mc ms Q pc lv (.int i :: .ref 0 :: st) (n, K, f, g) := mj_sld hd hq hK hin (by rw [hk, hv]; exact k)
theorem mj_laldv {M : mj_M} {d mc ms : Nat} {Q : mj_Q} {pc q : Nat} {lv st : List Value} {n : Nat} {K : Nat → mj_K} {f : Nat → Nat → Int32} {g : Nat → Nat → Option Nat} {a L x k : Nat} {i : Int32} {v : Int64} (hd : decode M.2.1 pc = .ok (.laload, 1)) (hq : pc + 1 = q) (hK : K a = (4, L, x)) (hin : vp_in i L) (hk : i.toNatClampNeg = k) (hv : mj_lg (f a k) (f a (k + 64)) = v)
    (k : mj_W M d mc ms Q q lv (.long v :: st) (n, K, f, g)) : mj_W M d mc ms Q pc lv (.int i :: .ref a :: st) (n, K, f, g) := mj_lald hd hq hK hin (by rw [hk, hv]; exact k)
set_option maxHeartbeats 100000 in
set_option maxRecDepth 100000 in
theorem c_end {mc ms n1 : Nat} {w5 w6 w7 w8 : Value} {K : Nat → mj_K} {f : Nat → Nat → Int32} {g : Nat → Nat → Option Nat} (k0 : K 0 = (3, 7, 0)) : mj_W m_law 13 mc ms lw_QL 1811 [.ref 0, .ref 2, .ref 145, .ref 149, .int 0, w5, w6, w7, w8] [] (n1, K, f, g) := by
  refine mj_iinc (i := 4) (q := 1814) dL_law_1811 rfl rfl (by decide) rfl ?_
  dsimp only [List.set]
  refine mj_goto (q := 23) dL_law_1814 (by decide) ?_
  refine mj_iload (i := 4) (q := 25) dL_law_23 rfl rfl ?_
  refine mj_aload_n (i := 0) (q := 26) dL_law_25 rfl rfl rfl ?_
  refine mj_slen (L := 7) (v := 7) (q := 27) dL_law_26 rfl k0 (by decide) ?_
  refine mj_num2 (v := 7) (q := 29) (by decide) dL_law_27 rfl ?_
  refine mj_isub (q := 30) dL_law_29 rfl ?_
  refine mj_icmp_gt (tgt := 1817) (q := 33) dL_law_30 (by decide) rfl (fun c_30 => ?_) (fun c_30 => absurd (by decide) c_30)
  refine mj_num1 (v := 1) (q := 1818) rfl dL_law_1817 rfl ?_
  exact mj_ireturn dL_law_1818 ⟨_, rfl, rfl⟩ rfl
set_option maxHeartbeats 100000 in
set_option maxRecDepth 100000 in
theorem c_lift {v1 v2 : Int32} {K : Nat → mj_K} {f : Nat → Nat → Int32} {g : Nat → Nat → Option Nat} (hF : lw_F K f g) (k0 : K 0 = (3, 7, 0)) (w1 : f 0 1 = v1) (w2 : f 0 2 = v2) (h1 : ¬ v1 < 10) (h2 : v1 ≤ 999) (h3 : ¬ v2 < 3) (h4 : v2 ≤ 9) : mj_W m_law 13 60 400 lw_QL 160 [.ref 0, .ref 2, .ref 145, .ref 149, .int 0, .null, .null, .null, .null] [] (150, K, f, g) := by
  obtain ⟨k1, g1, g9, k2, g2, k3, g3, k4, f2, k9, kX, gX, fX2, fX4, kY, gL, gR, fY, kL, fL, gL1, kR, fR, k149⟩ := hF
  refine mj_aload_n (i := 1) (q := 161) dL_law_160 rfl rfl rfl ?_
  refine mj_aload_n (i := 0) (q := 162) dL_law_161 rfl rfl rfl ?_
  refine mj_iload (i := 4) (q := 164) dL_law_162 rfl rfl ?_
  refine mj_num1 (v := 1) (q := 165) rfl dL_law_164 rfl ?_
  refine mj_iadd (q := 166) dL_law_165 rfl ?_
  refine mj_sldv (L := 7) (k := 1) (q := 167) dL_law_166 rfl k0 (by unfold vp_in; decide) (by decide) w1 ?_
  refine mj_aload_n (i := 0) (q := 168) dL_law_167 rfl rfl rfl ?_
  refine mj_iload (i := 4) (q := 170) dL_law_168 rfl rfl ?_
  refine mj_num1 (v := 2) (q := 171) rfl dL_law_170 rfl ?_
  refine mj_iadd (q := 172) dL_law_171 rfl ?_
  refine mj_sldv (L := 7) (k := 2) (q := 173) dL_law_172 rfl k0 (by unfold vp_in; decide) (by decide) w2 ?_
  refine mj_aload_n (i := 3) (q := 174) dL_law_173 rfl rfl rfl ?_
  refine mj_kH4i (K := m_L_lift) (q := 177) (mc1 := 1) (ms1 := 6) (mc := 59) (ms := 394) dL_law_174 ln_L_93 ok_L_lift (Nat.le_of_ble_eq_true rfl) (by decide) rfl rfl rfl (l_lift k1 g1 k2 f2 k149 g2 k3 g3 k4 h1 h2 h3 h4) (fun r_174 h1 hq => ?_)
  obtain ⟨rfl, f9, rfl, e9, z1⟩ := hq
  refine mj_istore (i := 5) (q := 179) dL_law_177 rfl (by decide) rfl ?_
  dsimp only [List.set]
  refine mj_aload_n (i := 2) (q := 180) dL_law_179 rfl rfl rfl ?_
  refine mj_aload_n (i := 0) (q := 181) dL_law_180 rfl rfl rfl ?_
  refine mj_iload (i := 4) (q := 183) dL_law_181 rfl rfl ?_
  refine mj_num1 (v := 1) (q := 184) rfl dL_law_183 rfl ?_
  refine mj_iadd (q := 185) dL_law_184 rfl ?_
  refine mj_sldv (L := 7) (k := 1) (q := 186) dL_law_185 rfl k0 (by unfold vp_in; decide) (by decide) ((congrFun (z1 0 (Or.inl rfl)) 1).trans w1) ?_
  refine mj_aload_n (i := 0) (q := 187) dL_law_186 rfl rfl rfl ?_
  refine mj_iload (i := 4) (q := 189) dL_law_187 rfl rfl ?_
  refine mj_num1 (v := 2) (q := 190) rfl dL_law_189 rfl ?_
  refine mj_iadd (q := 191) dL_law_190 rfl ?_
  refine mj_sldv (L := 7) (k := 2) (q := 192) dL_law_191 rfl k0 (by unfold vp_in; decide) (by decide) ((congrFun (z1 0 (Or.inl rfl)) 2).trans w2) ?_
  refine mj_kV2i (K := m_X7_lift) (q := 195) (mc1 := 2) (ms1 := 15) (mc := 57) (ms := 379) dL_law_192 ln_L_98 ok_X7_lift (Nat.le_of_ble_eq_true rfl) (by decide) (mj_rc2 (x := 0) (ci := 9) (by first | assumption | simp [mj_up, mj_upl, mj_row, *]) rfl) rfl rfl rfl (r_lift kX gX kY gL gR kL kR ((congrFun (z1 147 (Or.inr (by decide))) 2).trans fL) ((congrFun (z1 148 (Or.inr (by decide))) 2).trans fR) gL1 (by omega) h1 h2 h3 h4) (fun r_192 h1 hq => ?_)
  obtain ⟨rfl, n2, K2, f8, g8, rfl, q1, q2, q3, q4, q5⟩ := hq
  refine mj_istore (i := 6) (q := 197) dL_law_195 rfl (by decide) rfl ?_
  dsimp only [List.set]
  refine mj_aload_n (i := 2) (q := 198) dL_law_197 rfl rfl rfl ?_
  refine mj_kV0i (K := m_X7_thrown) (q := 201) (mc1 := 0) (ms1 := 0) (mc := 57) (ms := 379) dL_law_198 ln_L_99 ok_X7_thrown (Nat.le_of_ble_eq_true rfl) (by decide) (mj_rc2 (x := 0) (ci := 9) (by first | assumption | simp [mj_up, mj_upl, mj_row, *]) rfl) rfl rfl rfl (s_thrown q1) (fun r_198 h1 hq => ?_)
  obtain ⟨rfl, rfl⟩ := hq
  rw [q2]
  refine mj_iload (i := 5) (q := 203) dL_law_201 rfl rfl ?_
  refine mj_icmp_eq (tgt := 208) (q := 206) dL_law_203 (by decide) rfl (fun c_203 => ?_) (fun c_203 => absurd rfl c_203)
  refine mj_iload (i := 5) (q := 210) dL_law_208 rfl rfl ?_
  refine mj_if_ne (tgt := 225) (q := 213) dL_law_210 (by decide) rfl (fun c_210 => absurd rfl c_210) (fun c_210 => ?_)
  refine mj_aload_n (i := 3) (q := 214) dL_law_213 rfl rfl rfl ?_
  refine mj_num1 (v := 0) (q := 215) rfl dL_law_214 rfl ?_
  refine mj_laldv (L := 1) (x := 0) (k := 0) (v := Int32.toInt64 (0)) (q := 216) dL_law_215 rfl (q3.trans k149) (by unfold vp_in; decide) (by decide) (by rw [q4]; exact e9) ?_
  refine mj_iload (i := 6) (q := 218) dL_law_216 rfl rfl ?_
  refine mj_i2l (q := 219) dL_law_218 rfl ?_
  refine mj_lcmp (q := 220) dL_law_219 rfl ?_
  refine mj_if_eq (tgt := 225) (q := 223) dL_law_220 (by decide) rfl (fun c_220 => ?_) (fun c_220 => absurd ((lg_cmp_eq _ _).mpr rfl) c_220)
  refine mj_goto (q := 1811) dL_law_225 (by decide) ?_
  exact c_end (q5.trans k0)
set_option maxHeartbeats 100000 in
set_option maxRecDepth 100000 in
theorem cx_lift {v1 v2 : Int32} {K : Nat → mj_K} {f : Nat → Nat → Int32} {g : Nat → Nat → Option Nat} (hF : lw_F K f g) (k0 : K 0 = (3, 7, 0)) (w1 : f 0 1 = v1) (w2 : f 0 2 = v2) (hx : ¬ ((¬ v1 < 10 ∧ v1 ≤ 999) ∧ (¬ v2 < 3 ∧ v2 ≤ 9))) : mj_W m_law 13 60 400 lw_QL 160 [.ref 0, .ref 2, .ref 145, .ref 149, .int 0, .null, .null, .null, .null] [] (150, K, f, g) := by
  obtain ⟨k1, g1, g9, k2, g2, k3, g3, k4, f2, k9, kX, gX, fX2, fX4, kY, gL, gR, fY, kL, fL, gL1, kR, fR, k149⟩ := hF
  refine mj_aload_n (i := 1) (q := 161) dL_law_160 rfl rfl rfl ?_
  refine mj_aload_n (i := 0) (q := 162) dL_law_161 rfl rfl rfl ?_
  refine mj_iload (i := 4) (q := 164) dL_law_162 rfl rfl ?_
  refine mj_num1 (v := 1) (q := 165) rfl dL_law_164 rfl ?_
  refine mj_iadd (q := 166) dL_law_165 rfl ?_
  refine mj_sldv (L := 7) (k := 1) (q := 167) dL_law_166 rfl k0 (by unfold vp_in; decide) (by decide) w1 ?_
  refine mj_aload_n (i := 0) (q := 168) dL_law_167 rfl rfl rfl ?_
  refine mj_iload (i := 4) (q := 170) dL_law_168 rfl rfl ?_
  refine mj_num1 (v := 2) (q := 171) rfl dL_law_170 rfl ?_
  refine mj_iadd (q := 172) dL_law_171 rfl ?_
  refine mj_sldv (L := 7) (k := 2) (q := 173) dL_law_172 rfl k0 (by unfold vp_in; decide) (by decide) w2 ?_
  refine mj_aload_n (i := 3) (q := 174) dL_law_173 rfl rfl rfl ?_
  refine mj_kH4i (K := m_L_lift) (q := 177) (mc1 := 1) (ms1 := 6) (mc := 59) (ms := 394) dL_law_174 ln_L_93 ok_L_lift (Nat.le_of_ble_eq_true rfl) (by decide) rfl rfl rfl (lx_lift k1 hx) (fun r_174 h1 hq => ?_)
  obtain ⟨rfl, rfl⟩ := hq
  refine mj_istore (i := 5) (q := 179) dL_law_177 rfl (by decide) rfl ?_
  dsimp only [List.set]
  refine mj_aload_n (i := 2) (q := 180) dL_law_179 rfl rfl rfl ?_
  refine mj_aload_n (i := 0) (q := 181) dL_law_180 rfl rfl rfl ?_
  refine mj_iload (i := 4) (q := 183) dL_law_181 rfl rfl ?_
  refine mj_num1 (v := 1) (q := 184) rfl dL_law_183 rfl ?_
  refine mj_iadd (q := 185) dL_law_184 rfl ?_
  refine mj_sldv (L := 7) (k := 1) (q := 186) dL_law_185 rfl k0 (by unfold vp_in; decide) (by decide) w1 ?_
  refine mj_aload_n (i := 0) (q := 187) dL_law_186 rfl rfl rfl ?_
  refine mj_iload (i := 4) (q := 189) dL_law_187 rfl rfl ?_
  refine mj_num1 (v := 2) (q := 190) rfl dL_law_189 rfl ?_
  refine mj_iadd (q := 191) dL_law_190 rfl ?_
  refine mj_sldv (L := 7) (k := 2) (q := 192) dL_law_191 rfl k0 (by unfold vp_in; decide) (by decide) w2 ?_
  refine mj_kV2i (K := m_X7_lift) (q := 195) (mc1 := 0) (ms1 := 0) (mc := 59) (ms := 394) dL_law_192 ln_L_98 ok_X7_lift (Nat.le_of_ble_eq_true rfl) (by decide) (mj_rc2 (x := 0) (ci := 9) (by first | assumption | simp [mj_up, mj_upl, mj_row, *]) rfl) rfl rfl rfl (rx_lift kX hx) (fun r_192 h1 hq => ?_)
  obtain ⟨rfl, n2, K2, f8, g8, rfl, q1, q2, q3, q4, q5⟩ := hq
  refine mj_istore (i := 6) (q := 197) dL_law_195 rfl (by decide) rfl ?_
  dsimp only [List.set]
  refine mj_aload_n (i := 2) (q := 198) dL_law_197 rfl rfl rfl ?_
  refine mj_kV0i (K := m_X7_thrown) (q := 201) (mc1 := 0) (ms1 := 0) (mc := 59) (ms := 394) dL_law_198 ln_L_99 ok_X7_thrown (Nat.le_of_ble_eq_true rfl) (by decide) (mj_rc2 (x := 0) (ci := 9) (by first | assumption | simp [mj_up, mj_upl, mj_row, *]) rfl) rfl rfl rfl (s_thrown q1) (fun r_198 h1 hq => ?_)
  obtain ⟨rfl, rfl⟩ := hq
  rw [q2]
  refine mj_iload (i := 5) (q := 203) dL_law_201 rfl rfl ?_
  refine mj_icmp_eq (tgt := 208) (q := 206) dL_law_203 (by decide) rfl (fun c_203 => ?_) (fun c_203 => absurd rfl c_203)
  refine mj_iload (i := 5) (q := 210) dL_law_208 rfl rfl ?_
  refine mj_if_ne (tgt := 225) (q := 213) dL_law_210 (by decide) rfl (fun c_210 => ?_) (fun c_210 => absurd c_210 (by decide))
  refine mj_goto (q := 1811) dL_law_225 (by decide) ?_
  exact c_end (q5.trans k0)
set_option maxHeartbeats 100000 in
set_option maxRecDepth 100000 in
theorem c_run {v1 v2 v3 v4 v5 : Int32} {K : Nat → mj_K} {f : Nat → Nat → Int32} {g : Nat → Nat → Option Nat} (hF : lw_F K f g) (k0 : K 0 = (3, 7, 0)) (w1 : f 0 1 = v1) (w2 : f 0 2 = v2) (w3 : f 0 3 = v3) (w4 : f 0 4 = v4) (w5 : f 0 5 = v5) : mj_W m_law 13 60 400 lw_QL 228 [.ref 0, .ref 2, .ref 145, .ref 149, .int 0, .null, .null, .null, .null] [] (150, K, f, g) := by
  obtain ⟨k1, g1, g9, k2, g2, k3, g3, k4, f2, k9, kX, gX, fX2, fX4, kY, gL, gR, fY, kL, fL, gL1, kR, fR, k149⟩ := hF
  refine mj_aload_n (i := 1) (q := 229) dL_law_228 rfl rfl rfl ?_
  refine mj_aload_n (i := 0) (q := 230) dL_law_229 rfl rfl rfl ?_
  refine mj_iload (i := 4) (q := 232) dL_law_230 rfl rfl ?_
  refine mj_num1 (v := 1) (q := 233) rfl dL_law_232 rfl ?_
  refine mj_iadd (q := 234) dL_law_233 rfl ?_
  refine mj_sldv (L := 7) (k := 1) (q := 235) dL_law_234 rfl k0 (by unfold vp_in; decide) (by decide) w1 ?_
  refine mj_aload_n (i := 0) (q := 236) dL_law_235 rfl rfl rfl ?_
  refine mj_iload (i := 4) (q := 238) dL_law_236 rfl rfl ?_
  refine mj_num1 (v := 2) (q := 239) rfl dL_law_238 rfl ?_
  refine mj_iadd (q := 240) dL_law_239 rfl ?_
  refine mj_sldv (L := 7) (k := 2) (q := 241) dL_law_240 rfl k0 (by unfold vp_in; decide) (by decide) w2 ?_
  refine mj_aload_n (i := 0) (q := 242) dL_law_241 rfl rfl rfl ?_
  refine mj_iload (i := 4) (q := 244) dL_law_242 rfl rfl ?_
  refine mj_num1 (v := 3) (q := 245) rfl dL_law_244 rfl ?_
  refine mj_iadd (q := 246) dL_law_245 rfl ?_
  refine mj_sldv (L := 7) (k := 3) (q := 247) dL_law_246 rfl k0 (by unfold vp_in; decide) (by decide) w3 ?_
  refine mj_aload_n (i := 0) (q := 248) dL_law_247 rfl rfl rfl ?_
  refine mj_iload (i := 4) (q := 250) dL_law_248 rfl rfl ?_
  refine mj_num1 (v := 4) (q := 251) rfl dL_law_250 rfl ?_
  refine mj_iadd (q := 252) dL_law_251 rfl ?_
  refine mj_sldv (L := 7) (k := 4) (q := 253) dL_law_252 rfl k0 (by unfold vp_in; decide) (by decide) w4 ?_
  refine mj_aload_n (i := 0) (q := 254) dL_law_253 rfl rfl rfl ?_
  refine mj_iload (i := 4) (q := 256) dL_law_254 rfl rfl ?_
  refine mj_num1 (v := 5) (q := 257) rfl dL_law_256 rfl ?_
  refine mj_iadd (q := 258) dL_law_257 rfl ?_
  refine mj_sldv (L := 7) (k := 5) (q := 259) dL_law_258 rfl k0 (by unfold vp_in; decide) (by decide) w5 ?_
  refine mj_aload_n (i := 3) (q := 260) dL_law_259 rfl rfl rfl ?_
  refine mj_kH7i (K := m_L_run) (q := 263) (mc1 := 1) (ms1 := 6) (mc := 59) (ms := 394) dL_law_260 ln_L_103 ok_L_run (Nat.le_of_ble_eq_true rfl) (by decide) rfl rfl rfl (l_run k1 g1 k2 f2 k149) (fun r_260 h1 hq => ?_)
  obtain ⟨rfl, rfl⟩ := hq
  refine mj_istore (i := 5) (q := 265) dL_law_263 rfl (by decide) rfl ?_
  dsimp only [List.set]
  refine mj_aload_n (i := 2) (q := 266) dL_law_265 rfl rfl rfl ?_
  refine mj_aload_n (i := 0) (q := 267) dL_law_266 rfl rfl rfl ?_
  refine mj_iload (i := 4) (q := 269) dL_law_267 rfl rfl ?_
  refine mj_num1 (v := 1) (q := 270) rfl dL_law_269 rfl ?_
  refine mj_iadd (q := 271) dL_law_270 rfl ?_
  refine mj_sldv (L := 7) (k := 1) (q := 272) dL_law_271 rfl k0 (by unfold vp_in; decide) (by decide) w1 ?_
  refine mj_aload_n (i := 0) (q := 273) dL_law_272 rfl rfl rfl ?_
  refine mj_iload (i := 4) (q := 275) dL_law_273 rfl rfl ?_
  refine mj_num1 (v := 2) (q := 276) rfl dL_law_275 rfl ?_
  refine mj_iadd (q := 277) dL_law_276 rfl ?_
  refine mj_sldv (L := 7) (k := 2) (q := 278) dL_law_277 rfl k0 (by unfold vp_in; decide) (by decide) w2 ?_
  refine mj_aload_n (i := 0) (q := 279) dL_law_278 rfl rfl rfl ?_
  refine mj_iload (i := 4) (q := 281) dL_law_279 rfl rfl ?_
  refine mj_num1 (v := 3) (q := 282) rfl dL_law_281 rfl ?_
  refine mj_iadd (q := 283) dL_law_282 rfl ?_
  refine mj_sldv (L := 7) (k := 3) (q := 284) dL_law_283 rfl k0 (by unfold vp_in; decide) (by decide) w3 ?_
  refine mj_aload_n (i := 0) (q := 285) dL_law_284 rfl rfl rfl ?_
  refine mj_iload (i := 4) (q := 287) dL_law_285 rfl rfl ?_
  refine mj_num1 (v := 4) (q := 288) rfl dL_law_287 rfl ?_
  refine mj_iadd (q := 289) dL_law_288 rfl ?_
  refine mj_sldv (L := 7) (k := 4) (q := 290) dL_law_289 rfl k0 (by unfold vp_in; decide) (by decide) w4 ?_
  refine mj_aload_n (i := 0) (q := 291) dL_law_290 rfl rfl rfl ?_
  refine mj_iload (i := 4) (q := 293) dL_law_291 rfl rfl ?_
  refine mj_num1 (v := 5) (q := 294) rfl dL_law_293 rfl ?_
  refine mj_iadd (q := 295) dL_law_294 rfl ?_
  refine mj_sldv (L := 7) (k := 5) (q := 296) dL_law_295 rfl k0 (by unfold vp_in; decide) (by decide) w5 ?_
  refine mj_kV5i (K := m_X7_run) (q := 299) (mc1 := 0) (ms1 := 0) (mc := 59) (ms := 394) dL_law_296 ln_L_106 ok_X7_run (Nat.le_of_ble_eq_true rfl) (by decide) (mj_rc2 (x := 0) (ci := 9) (by first | assumption | simp [mj_up, mj_upl, mj_row, *]) rfl) rfl rfl rfl (r_run kX gX kY gL gR kL kR fL fR) (fun r_296 h1 hq => ?_)
  obtain ⟨rfl, n2, K2, f8, g8, rfl, q1, q2, q3, q4, q5⟩ := hq
  refine mj_istore (i := 6) (q := 301) dL_law_299 rfl (by decide) rfl ?_
  dsimp only [List.set]
  refine mj_aload_n (i := 2) (q := 302) dL_law_301 rfl rfl rfl ?_
  refine mj_kV0i (K := m_X7_thrown) (q := 305) (mc1 := 0) (ms1 := 0) (mc := 59) (ms := 394) dL_law_302 ln_L_99 ok_X7_thrown (Nat.le_of_ble_eq_true rfl) (by decide) (mj_rc2 (x := 0) (ci := 9) (by first | assumption | simp [mj_up, mj_upl, mj_row, *]) rfl) rfl rfl rfl (s_thrown q1) (fun r_302 h1 hq => ?_)
  obtain ⟨rfl, rfl⟩ := hq
  rw [q2]
  refine mj_iload (i := 5) (q := 307) dL_law_305 rfl rfl ?_
  refine mj_icmp_eq (tgt := 312) (q := 310) dL_law_307 (by decide) rfl (fun c_307 => ?_) (fun c_307 => absurd rfl c_307)
  refine mj_iload (i := 5) (q := 314) dL_law_312 rfl rfl ?_
  refine mj_if_ne (tgt := 329) (q := 317) dL_law_314 (by decide) rfl (fun c_314 => ?_) (fun c_314 => absurd c_314 (by decide))
  refine mj_goto (q := 1811) dL_law_329 (by decide) ?_
  exact c_end (q5.trans k0)
set_option maxHeartbeats 100000 in
set_option maxRecDepth 100000 in
theorem c_turn {v1 v2 : Int32} {K : Nat → mj_K} {f : Nat → Nat → Int32} {g : Nat → Nat → Option Nat} (hF : lw_F K f g) (k0 : K 0 = (3, 7, 0)) (w1 : f 0 1 = v1) (w2 : f 0 2 = v2) : mj_W m_law 13 60 400 lw_QL 332 [.ref 0, .ref 2, .ref 145, .ref 149, .int 0, .null, .null, .null, .null] [] (150, K, f, g) := by
  obtain ⟨k1, g1, g9, k2, g2, k3, g3, k4, f2, k9, kX, gX, fX2, fX4, kY, gL, gR, fY, kL, fL, gL1, kR, fR, k149⟩ := hF
  refine mj_aload_n (i := 1) (q := 333) dL_law_332 rfl rfl rfl ?_
  refine mj_aload_n (i := 0) (q := 334) dL_law_333 rfl rfl rfl ?_
  refine mj_iload (i := 4) (q := 336) dL_law_334 rfl rfl ?_
  refine mj_num1 (v := 1) (q := 337) rfl dL_law_336 rfl ?_
  refine mj_iadd (q := 338) dL_law_337 rfl ?_
  refine mj_sldv (L := 7) (k := 1) (q := 339) dL_law_338 rfl k0 (by unfold vp_in; decide) (by decide) w1 ?_
  refine mj_aload_n (i := 0) (q := 340) dL_law_339 rfl rfl rfl ?_
  refine mj_iload (i := 4) (q := 342) dL_law_340 rfl rfl ?_
  refine mj_num1 (v := 2) (q := 343) rfl dL_law_342 rfl ?_
  refine mj_iadd (q := 344) dL_law_343 rfl ?_
  refine mj_sldv (L := 7) (k := 2) (q := 345) dL_law_344 rfl k0 (by unfold vp_in; decide) (by decide) w2 ?_
  refine mj_if_eq (tgt := 352) (q := 348) dL_law_345 (by decide) rfl (fun c_345 => ?_) (fun c_345 => ?_)
  · refine mj_num1 (v := 0) (q := 353) rfl dL_law_352 rfl ?_
    refine mj_aload_n (i := 3) (q := 354) dL_law_353 rfl rfl rfl ?_
    refine mj_kH4i (K := m_L_turn) (q := 357) (mc1 := 1) (ms1 := 6) (mc := 59) (ms := 394) dL_law_354 ln_L_107 ok_L_turn (Nat.le_of_ble_eq_true rfl) (by decide) rfl rfl rfl (l_turn k1 g1 k2 f2 k149) (fun r_354 h1 hq => ?_)
    obtain ⟨rfl, rfl⟩ := hq
    refine mj_istore (i := 5) (q := 359) dL_law_357 rfl (by decide) rfl ?_
    dsimp only [List.set]
    refine mj_aload_n (i := 2) (q := 360) dL_law_359 rfl rfl rfl ?_
    refine mj_aload_n (i := 0) (q := 361) dL_law_360 rfl rfl rfl ?_
    refine mj_iload (i := 4) (q := 363) dL_law_361 rfl rfl ?_
    refine mj_num1 (v := 1) (q := 364) rfl dL_law_363 rfl ?_
    refine mj_iadd (q := 365) dL_law_364 rfl ?_
    refine mj_sldv (L := 7) (k := 1) (q := 366) dL_law_365 rfl k0 (by unfold vp_in; decide) (by decide) w1 ?_
    refine mj_aload_n (i := 0) (q := 367) dL_law_366 rfl rfl rfl ?_
    refine mj_iload (i := 4) (q := 369) dL_law_367 rfl rfl ?_
    refine mj_num1 (v := 2) (q := 370) rfl dL_law_369 rfl ?_
    refine mj_iadd (q := 371) dL_law_370 rfl ?_
    refine mj_sldv (L := 7) (k := 2) (q := 372) dL_law_371 rfl k0 (by unfold vp_in; decide) (by decide) w2 ?_
    refine mj_if_eq (tgt := 379) (q := 375) dL_law_372 (by decide) rfl (fun c_372 => ?_) (fun c_372 => ?_)
    · refine mj_num1 (v := 0) (q := 380) rfl dL_law_379 rfl ?_
      refine mj_kV2i (K := m_X7_turn) (q := 383) (mc1 := 0) (ms1 := 0) (mc := 59) (ms := 394) dL_law_380 ln_L_110 ok_X7_turn (Nat.le_of_ble_eq_true rfl) (by decide) (mj_rc2 (x := 0) (ci := 9) (by first | assumption | simp [mj_up, mj_upl, mj_row, *]) rfl) rfl rfl rfl (r_turn kX gX kY gL gR kL kR fL fR) (fun r_380 h1 hq => ?_)
      obtain ⟨rfl, n2, K2, f8, g8, rfl, q1, q2, q3, q4, q5⟩ := hq
      refine mj_istore (i := 6) (q := 385) dL_law_383 rfl (by decide) rfl ?_
      dsimp only [List.set]
      refine mj_aload_n (i := 2) (q := 386) dL_law_385 rfl rfl rfl ?_
      refine mj_kV0i (K := m_X7_thrown) (q := 389) (mc1 := 0) (ms1 := 0) (mc := 59) (ms := 394) dL_law_386 ln_L_99 ok_X7_thrown (Nat.le_of_ble_eq_true rfl) (by decide) (mj_rc2 (x := 0) (ci := 9) (by first | assumption | simp [mj_up, mj_upl, mj_row, *]) rfl) rfl rfl rfl (s_thrown q1) (fun r_386 h1 hq => ?_)
      obtain ⟨rfl, rfl⟩ := hq
      rw [q2]
      refine mj_iload (i := 5) (q := 391) dL_law_389 rfl rfl ?_
      refine mj_icmp_eq (tgt := 396) (q := 394) dL_law_391 (by decide) rfl (fun c_391 => ?_) (fun c_391 => absurd rfl c_391)
      refine mj_iload (i := 5) (q := 398) dL_law_396 rfl rfl ?_
      refine mj_if_ne (tgt := 420) (q := 401) dL_law_398 (by decide) rfl (fun c_398 => ?_) (fun c_398 => absurd c_398 (by decide))
      refine mj_goto (q := 1811) dL_law_420 (by decide) ?_
      exact c_end (q5.trans k0)
    · refine mj_num1 (v := 1) (q := 376) rfl dL_law_375 rfl ?_
      refine mj_goto (q := 380) dL_law_376 (by decide) ?_
      refine mj_kV2i (K := m_X7_turn) (q := 383) (mc1 := 0) (ms1 := 0) (mc := 59) (ms := 394) dL_law_380 ln_L_110 ok_X7_turn (Nat.le_of_ble_eq_true rfl) (by decide) (mj_rc2 (x := 0) (ci := 9) (by first | assumption | simp [mj_up, mj_upl, mj_row, *]) rfl) rfl rfl rfl (r_turn kX gX kY gL gR kL kR fL fR) (fun r_380 h1 hq => ?_)
      obtain ⟨rfl, n2, K2, f8, g8, rfl, q1, q2, q3, q4, q5⟩ := hq
      refine mj_istore (i := 6) (q := 385) dL_law_383 rfl (by decide) rfl ?_
      dsimp only [List.set]
      refine mj_aload_n (i := 2) (q := 386) dL_law_385 rfl rfl rfl ?_
      refine mj_kV0i (K := m_X7_thrown) (q := 389) (mc1 := 0) (ms1 := 0) (mc := 59) (ms := 394) dL_law_386 ln_L_99 ok_X7_thrown (Nat.le_of_ble_eq_true rfl) (by decide) (mj_rc2 (x := 0) (ci := 9) (by first | assumption | simp [mj_up, mj_upl, mj_row, *]) rfl) rfl rfl rfl (s_thrown q1) (fun r_386 h1 hq => ?_)
      obtain ⟨rfl, rfl⟩ := hq
      rw [q2]
      refine mj_iload (i := 5) (q := 391) dL_law_389 rfl rfl ?_
      refine mj_icmp_eq (tgt := 396) (q := 394) dL_law_391 (by decide) rfl (fun c_391 => ?_) (fun c_391 => absurd rfl c_391)
      refine mj_iload (i := 5) (q := 398) dL_law_396 rfl rfl ?_
      refine mj_if_ne (tgt := 420) (q := 401) dL_law_398 (by decide) rfl (fun c_398 => ?_) (fun c_398 => absurd c_398 (by decide))
      refine mj_goto (q := 1811) dL_law_420 (by decide) ?_
      exact c_end (q5.trans k0)
  · refine mj_num1 (v := 1) (q := 349) rfl dL_law_348 rfl ?_
    refine mj_goto (q := 353) dL_law_349 (by decide) ?_
    refine mj_aload_n (i := 3) (q := 354) dL_law_353 rfl rfl rfl ?_
    refine mj_kH4i (K := m_L_turn) (q := 357) (mc1 := 1) (ms1 := 6) (mc := 59) (ms := 394) dL_law_354 ln_L_107 ok_L_turn (Nat.le_of_ble_eq_true rfl) (by decide) rfl rfl rfl (l_turn k1 g1 k2 f2 k149) (fun r_354 h1 hq => ?_)
    obtain ⟨rfl, rfl⟩ := hq
    refine mj_istore (i := 5) (q := 359) dL_law_357 rfl (by decide) rfl ?_
    dsimp only [List.set]
    refine mj_aload_n (i := 2) (q := 360) dL_law_359 rfl rfl rfl ?_
    refine mj_aload_n (i := 0) (q := 361) dL_law_360 rfl rfl rfl ?_
    refine mj_iload (i := 4) (q := 363) dL_law_361 rfl rfl ?_
    refine mj_num1 (v := 1) (q := 364) rfl dL_law_363 rfl ?_
    refine mj_iadd (q := 365) dL_law_364 rfl ?_
    refine mj_sldv (L := 7) (k := 1) (q := 366) dL_law_365 rfl k0 (by unfold vp_in; decide) (by decide) w1 ?_
    refine mj_aload_n (i := 0) (q := 367) dL_law_366 rfl rfl rfl ?_
    refine mj_iload (i := 4) (q := 369) dL_law_367 rfl rfl ?_
    refine mj_num1 (v := 2) (q := 370) rfl dL_law_369 rfl ?_
    refine mj_iadd (q := 371) dL_law_370 rfl ?_
    refine mj_sldv (L := 7) (k := 2) (q := 372) dL_law_371 rfl k0 (by unfold vp_in; decide) (by decide) w2 ?_
    refine mj_if_eq (tgt := 379) (q := 375) dL_law_372 (by decide) rfl (fun c_372 => ?_) (fun c_372 => ?_)
    · refine mj_num1 (v := 0) (q := 380) rfl dL_law_379 rfl ?_
      refine mj_kV2i (K := m_X7_turn) (q := 383) (mc1 := 0) (ms1 := 0) (mc := 59) (ms := 394) dL_law_380 ln_L_110 ok_X7_turn (Nat.le_of_ble_eq_true rfl) (by decide) (mj_rc2 (x := 0) (ci := 9) (by first | assumption | simp [mj_up, mj_upl, mj_row, *]) rfl) rfl rfl rfl (r_turn kX gX kY gL gR kL kR fL fR) (fun r_380 h1 hq => ?_)
      obtain ⟨rfl, n2, K2, f8, g8, rfl, q1, q2, q3, q4, q5⟩ := hq
      refine mj_istore (i := 6) (q := 385) dL_law_383 rfl (by decide) rfl ?_
      dsimp only [List.set]
      refine mj_aload_n (i := 2) (q := 386) dL_law_385 rfl rfl rfl ?_
      refine mj_kV0i (K := m_X7_thrown) (q := 389) (mc1 := 0) (ms1 := 0) (mc := 59) (ms := 394) dL_law_386 ln_L_99 ok_X7_thrown (Nat.le_of_ble_eq_true rfl) (by decide) (mj_rc2 (x := 0) (ci := 9) (by first | assumption | simp [mj_up, mj_upl, mj_row, *]) rfl) rfl rfl rfl (s_thrown q1) (fun r_386 h1 hq => ?_)
      obtain ⟨rfl, rfl⟩ := hq
      rw [q2]
      refine mj_iload (i := 5) (q := 391) dL_law_389 rfl rfl ?_
      refine mj_icmp_eq (tgt := 396) (q := 394) dL_law_391 (by decide) rfl (fun c_391 => ?_) (fun c_391 => absurd rfl c_391)
      refine mj_iload (i := 5) (q := 398) dL_law_396 rfl rfl ?_
      refine mj_if_ne (tgt := 420) (q := 401) dL_law_398 (by decide) rfl (fun c_398 => ?_) (fun c_398 => absurd c_398 (by decide))
      refine mj_goto (q := 1811) dL_law_420 (by decide) ?_
      exact c_end (q5.trans k0)
    · refine mj_num1 (v := 1) (q := 376) rfl dL_law_375 rfl ?_
      refine mj_goto (q := 380) dL_law_376 (by decide) ?_
      refine mj_kV2i (K := m_X7_turn) (q := 383) (mc1 := 0) (ms1 := 0) (mc := 59) (ms := 394) dL_law_380 ln_L_110 ok_X7_turn (Nat.le_of_ble_eq_true rfl) (by decide) (mj_rc2 (x := 0) (ci := 9) (by first | assumption | simp [mj_up, mj_upl, mj_row, *]) rfl) rfl rfl rfl (r_turn kX gX kY gL gR kL kR fL fR) (fun r_380 h1 hq => ?_)
      obtain ⟨rfl, n2, K2, f8, g8, rfl, q1, q2, q3, q4, q5⟩ := hq
      refine mj_istore (i := 6) (q := 385) dL_law_383 rfl (by decide) rfl ?_
      dsimp only [List.set]
      refine mj_aload_n (i := 2) (q := 386) dL_law_385 rfl rfl rfl ?_
      refine mj_kV0i (K := m_X7_thrown) (q := 389) (mc1 := 0) (ms1 := 0) (mc := 59) (ms := 394) dL_law_386 ln_L_99 ok_X7_thrown (Nat.le_of_ble_eq_true rfl) (by decide) (mj_rc2 (x := 0) (ci := 9) (by first | assumption | simp [mj_up, mj_upl, mj_row, *]) rfl) rfl rfl rfl (s_thrown q1) (fun r_386 h1 hq => ?_)
      obtain ⟨rfl, rfl⟩ := hq
      rw [q2]
      refine mj_iload (i := 5) (q := 391) dL_law_389 rfl rfl ?_
      refine mj_icmp_eq (tgt := 396) (q := 394) dL_law_391 (by decide) rfl (fun c_391 => ?_) (fun c_391 => absurd rfl c_391)
      refine mj_iload (i := 5) (q := 398) dL_law_396 rfl rfl ?_
      refine mj_if_ne (tgt := 420) (q := 401) dL_law_398 (by decide) rfl (fun c_398 => ?_) (fun c_398 => absurd c_398 (by decide))
      refine mj_goto (q := 1811) dL_law_420 (by decide) ?_
      exact c_end (q5.trans k0)
set_option maxHeartbeats 100000 in
set_option maxRecDepth 100000 in
theorem c_release {v1 : Int32} {K : Nat → mj_K} {f : Nat → Nat → Int32} {g : Nat → Nat → Option Nat} (hF : lw_F K f g) (k0 : K 0 = (3, 7, 0)) (w1 : f 0 1 = v1) : mj_W m_law 13 60 400 lw_QL 423 [.ref 0, .ref 2, .ref 145, .ref 149, .int 0, .null, .null, .null, .null] [] (150, K, f, g) := by
  obtain ⟨k1, g1, g9, k2, g2, k3, g3, k4, f2, k9, kX, gX, fX2, fX4, kY, gL, gR, fY, kL, fL, gL1, kR, fR, k149⟩ := hF
  refine mj_aload_n (i := 1) (q := 424) dL_law_423 rfl rfl rfl ?_
  refine mj_aload_n (i := 0) (q := 425) dL_law_424 rfl rfl rfl ?_
  refine mj_iload (i := 4) (q := 427) dL_law_425 rfl rfl ?_
  refine mj_num1 (v := 1) (q := 428) rfl dL_law_427 rfl ?_
  refine mj_iadd (q := 429) dL_law_428 rfl ?_
  refine mj_sldv (L := 7) (k := 1) (q := 430) dL_law_429 rfl k0 (by unfold vp_in; decide) (by decide) w1 ?_
  refine mj_aload_n (i := 3) (q := 431) dL_law_430 rfl rfl rfl ?_
  refine mj_kH3i (K := m_L_release) (q := 434) (mc1 := 1) (ms1 := 6) (mc := 59) (ms := 394) dL_law_431 ln_L_111 ok_L_release (Nat.le_of_ble_eq_true rfl) (by decide) rfl rfl rfl (l_release k1 g1 k2 f2 k149) (fun r_431 h1 hq => ?_)
  obtain ⟨rfl, rfl⟩ := hq
  refine mj_istore (i := 5) (q := 436) dL_law_434 rfl (by decide) rfl ?_
  dsimp only [List.set]
  refine mj_aload_n (i := 2) (q := 437) dL_law_436 rfl rfl rfl ?_
  refine mj_aload_n (i := 0) (q := 438) dL_law_437 rfl rfl rfl ?_
  refine mj_iload (i := 4) (q := 440) dL_law_438 rfl rfl ?_
  refine mj_num1 (v := 1) (q := 441) rfl dL_law_440 rfl ?_
  refine mj_iadd (q := 442) dL_law_441 rfl ?_
  refine mj_sldv (L := 7) (k := 1) (q := 443) dL_law_442 rfl k0 (by unfold vp_in; decide) (by decide) w1 ?_
  refine mj_kV1i (K := m_X7_release) (q := 446) (mc1 := 0) (ms1 := 0) (mc := 59) (ms := 394) dL_law_443 ln_L_114 ok_X7_release (Nat.le_of_ble_eq_true rfl) (by decide) (mj_rc2 (x := 0) (ci := 9) (by first | assumption | simp [mj_up, mj_upl, mj_row, *]) rfl) rfl rfl rfl (r_release kX gX kY gL gR kL kR fL fR) (fun r_443 h1 hq => ?_)
  obtain ⟨rfl, n2, K2, f8, g8, rfl, q1, q2, q3, q4, q5⟩ := hq
  refine mj_istore (i := 6) (q := 448) dL_law_446 rfl (by decide) rfl ?_
  dsimp only [List.set]
  refine mj_aload_n (i := 2) (q := 449) dL_law_448 rfl rfl rfl ?_
  refine mj_kV0i (K := m_X7_thrown) (q := 452) (mc1 := 0) (ms1 := 0) (mc := 59) (ms := 394) dL_law_449 ln_L_99 ok_X7_thrown (Nat.le_of_ble_eq_true rfl) (by decide) (mj_rc2 (x := 0) (ci := 9) (by first | assumption | simp [mj_up, mj_upl, mj_row, *]) rfl) rfl rfl rfl (s_thrown q1) (fun r_449 h1 hq => ?_)
  obtain ⟨rfl, rfl⟩ := hq
  rw [q2]
  refine mj_iload (i := 5) (q := 454) dL_law_452 rfl rfl ?_
  refine mj_icmp_eq (tgt := 459) (q := 457) dL_law_454 (by decide) rfl (fun c_454 => ?_) (fun c_454 => absurd rfl c_454)
  refine mj_iload (i := 5) (q := 461) dL_law_459 rfl rfl ?_
  refine mj_if_ne (tgt := 483) (q := 464) dL_law_461 (by decide) rfl (fun c_461 => ?_) (fun c_461 => absurd c_461 (by decide))
  refine mj_goto (q := 1811) dL_law_483 (by decide) ?_
  exact c_end (q5.trans k0)
set_option maxHeartbeats 100000 in
set_option maxRecDepth 100000 in
theorem c_guns {v1 v2 : Int32} {K : Nat → mj_K} {f : Nat → Nat → Int32} {g : Nat → Nat → Option Nat} (hF : lw_F K f g) (k0 : K 0 = (3, 7, 0)) (w1 : f 0 1 = v1) (w2 : f 0 2 = v2) : mj_W m_law 13 60 400 lw_QL 486 [.ref 0, .ref 2, .ref 145, .ref 149, .int 0, .null, .null, .null, .null] [] (150, K, f, g) := by
  obtain ⟨k1, g1, g9, k2, g2, k3, g3, k4, f2, k9, kX, gX, fX2, fX4, kY, gL, gR, fY, kL, fL, gL1, kR, fR, k149⟩ := hF
  refine mj_aload_n (i := 1) (q := 487) dL_law_486 rfl rfl rfl ?_
  refine mj_aload_n (i := 0) (q := 488) dL_law_487 rfl rfl rfl ?_
  refine mj_iload (i := 4) (q := 490) dL_law_488 rfl rfl ?_
  refine mj_num1 (v := 1) (q := 491) rfl dL_law_490 rfl ?_
  refine mj_iadd (q := 492) dL_law_491 rfl ?_
  refine mj_sldv (L := 7) (k := 1) (q := 493) dL_law_492 rfl k0 (by unfold vp_in; decide) (by decide) w1 ?_
  refine mj_aload_n (i := 0) (q := 494) dL_law_493 rfl rfl rfl ?_
  refine mj_iload (i := 4) (q := 496) dL_law_494 rfl rfl ?_
  refine mj_num1 (v := 2) (q := 497) rfl dL_law_496 rfl ?_
  refine mj_iadd (q := 498) dL_law_497 rfl ?_
  refine mj_sldv (L := 7) (k := 2) (q := 499) dL_law_498 rfl k0 (by unfold vp_in; decide) (by decide) w2 ?_
  refine mj_aload_n (i := 3) (q := 500) dL_law_499 rfl rfl rfl ?_
  refine mj_kH4i (K := m_L_guns) (q := 503) (mc1 := 1) (ms1 := 6) (mc := 59) (ms := 394) dL_law_500 ln_L_115 ok_L_guns (Nat.le_of_ble_eq_true rfl) (by decide) rfl rfl rfl (l_guns k1 g1 k2 f2 k149) (fun r_500 h1 hq => ?_)
  obtain ⟨rfl, rfl⟩ := hq
  refine mj_istore (i := 5) (q := 505) dL_law_503 rfl (by decide) rfl ?_
  dsimp only [List.set]
  refine mj_aload_n (i := 2) (q := 506) dL_law_505 rfl rfl rfl ?_
  refine mj_aload_n (i := 0) (q := 507) dL_law_506 rfl rfl rfl ?_
  refine mj_iload (i := 4) (q := 509) dL_law_507 rfl rfl ?_
  refine mj_num1 (v := 1) (q := 510) rfl dL_law_509 rfl ?_
  refine mj_iadd (q := 511) dL_law_510 rfl ?_
  refine mj_sldv (L := 7) (k := 1) (q := 512) dL_law_511 rfl k0 (by unfold vp_in; decide) (by decide) w1 ?_
  refine mj_aload_n (i := 0) (q := 513) dL_law_512 rfl rfl rfl ?_
  refine mj_iload (i := 4) (q := 515) dL_law_513 rfl rfl ?_
  refine mj_num1 (v := 2) (q := 516) rfl dL_law_515 rfl ?_
  refine mj_iadd (q := 517) dL_law_516 rfl ?_
  refine mj_sldv (L := 7) (k := 2) (q := 518) dL_law_517 rfl k0 (by unfold vp_in; decide) (by decide) w2 ?_
  refine mj_kV2i (K := m_X7_guns) (q := 521) (mc1 := 0) (ms1 := 0) (mc := 59) (ms := 394) dL_law_518 ln_L_117 ok_X7_guns (Nat.le_of_ble_eq_true rfl) (by decide) (mj_rc2 (x := 0) (ci := 9) (by first | assumption | simp [mj_up, mj_upl, mj_row, *]) rfl) rfl rfl rfl (r_guns kX gX kY gL gR kL kR fL fR) (fun r_518 h1 hq => ?_)
  obtain ⟨rfl, n2, K2, f8, g8, rfl, q1, q2, q3, q4, q5⟩ := hq
  refine mj_istore (i := 6) (q := 523) dL_law_521 rfl (by decide) rfl ?_
  dsimp only [List.set]
  refine mj_aload_n (i := 2) (q := 524) dL_law_523 rfl rfl rfl ?_
  refine mj_kV0i (K := m_X7_thrown) (q := 527) (mc1 := 0) (ms1 := 0) (mc := 59) (ms := 394) dL_law_524 ln_L_99 ok_X7_thrown (Nat.le_of_ble_eq_true rfl) (by decide) (mj_rc2 (x := 0) (ci := 9) (by first | assumption | simp [mj_up, mj_upl, mj_row, *]) rfl) rfl rfl rfl (s_thrown q1) (fun r_524 h1 hq => ?_)
  obtain ⟨rfl, rfl⟩ := hq
  rw [q2]
  refine mj_iload (i := 5) (q := 529) dL_law_527 rfl rfl ?_
  refine mj_icmp_eq (tgt := 534) (q := 532) dL_law_529 (by decide) rfl (fun c_529 => ?_) (fun c_529 => absurd rfl c_529)
  refine mj_iload (i := 5) (q := 536) dL_law_534 rfl rfl ?_
  refine mj_if_ne (tgt := 551) (q := 539) dL_law_536 (by decide) rfl (fun c_536 => ?_) (fun c_536 => absurd c_536 (by decide))
  refine mj_goto (q := 1811) dL_law_551 (by decide) ?_
  exact c_end (q5.trans k0)
set_option maxHeartbeats 100000 in
set_option maxRecDepth 100000 in
theorem c_fill {v1 : Int32} {K : Nat → mj_K} {f : Nat → Nat → Int32} {g : Nat → Nat → Option Nat} (hF : lw_F K f g) (k0 : K 0 = (3, 7, 0)) (w1 : f 0 1 = v1) (h1 : ¬ v1 < 1) (h2 : v1 ≤ 5000) : mj_W m_law 13 60 400 lw_QL 554 [.ref 0, .ref 2, .ref 145, .ref 149, .int 0, .null, .null, .null, .null] [] (150, K, f, g) := by
  obtain ⟨k1, g1, g9, k2, g2, k3, g3, k4, f2, k9, kX, gX, fX2, fX4, kY, gL, gR, fY, kL, fL, gL1, kR, fR, k149⟩ := hF
  refine mj_aload_n (i := 1) (q := 555) dL_law_554 rfl rfl rfl ?_
  refine mj_aload_n (i := 0) (q := 556) dL_law_555 rfl rfl rfl ?_
  refine mj_iload (i := 4) (q := 558) dL_law_556 rfl rfl ?_
  refine mj_num1 (v := 1) (q := 559) rfl dL_law_558 rfl ?_
  refine mj_iadd (q := 560) dL_law_559 rfl ?_
  refine mj_sldv (L := 7) (k := 1) (q := 561) dL_law_560 rfl k0 (by unfold vp_in; decide) (by decide) w1 ?_
  refine mj_aload_n (i := 3) (q := 562) dL_law_561 rfl rfl rfl ?_
  refine mj_kH3i (K := m_L_fill) (q := 565) (mc1 := 1) (ms1 := 6) (mc := 59) (ms := 394) dL_law_562 ln_L_118 ok_L_fill (Nat.le_of_ble_eq_true rfl) (by decide) rfl rfl rfl (l_fill k1 g1 k2 f2 k149 h1 h2) (fun r_562 h1 hq => ?_)
  obtain ⟨rfl, f9, rfl, e9, z1⟩ := hq
  refine mj_istore (i := 5) (q := 567) dL_law_565 rfl (by decide) rfl ?_
  dsimp only [List.set]
  refine mj_aload_n (i := 2) (q := 568) dL_law_567 rfl rfl rfl ?_
  refine mj_aload_n (i := 0) (q := 569) dL_law_568 rfl rfl rfl ?_
  refine mj_iload (i := 4) (q := 571) dL_law_569 rfl rfl ?_
  refine mj_num1 (v := 1) (q := 572) rfl dL_law_571 rfl ?_
  refine mj_iadd (q := 573) dL_law_572 rfl ?_
  refine mj_sldv (L := 7) (k := 1) (q := 574) dL_law_573 rfl k0 (by unfold vp_in; decide) (by decide) ((congrFun (z1 0 (Or.inl rfl)) 1).trans w1) ?_
  refine mj_kV1i (K := m_X7_fill) (q := 577) (mc1 := 0) (ms1 := 0) (mc := 59) (ms := 394) dL_law_574 ln_L_120 ok_X7_fill (Nat.le_of_ble_eq_true rfl) (by decide) (mj_rc2 (x := 0) (ci := 9) (by first | assumption | simp [mj_up, mj_upl, mj_row, *]) rfl) rfl rfl rfl (r_fill kX gX kY gL gR kL kR ((congrFun (z1 147 (Or.inr (by decide))) 2).trans fL) ((congrFun (z1 148 (Or.inr (by decide))) 2).trans fR) ((z1 146 (Or.inr (by decide))).trans fY) h1 h2) (fun r_574 h1 hq => ?_)
  obtain ⟨rfl, n2, K2, f8, g8, rfl, q1, q2, q3, q4, q5⟩ := hq
  refine mj_istore (i := 6) (q := 579) dL_law_577 rfl (by decide) rfl ?_
  dsimp only [List.set]
  refine mj_aload_n (i := 2) (q := 580) dL_law_579 rfl rfl rfl ?_
  refine mj_kV0i (K := m_X7_thrown) (q := 583) (mc1 := 0) (ms1 := 0) (mc := 59) (ms := 394) dL_law_580 ln_L_99 ok_X7_thrown (Nat.le_of_ble_eq_true rfl) (by decide) (mj_rc2 (x := 0) (ci := 9) (by first | assumption | simp [mj_up, mj_upl, mj_row, *]) rfl) rfl rfl rfl (s_thrown q1) (fun r_580 h1 hq => ?_)
  obtain ⟨rfl, rfl⟩ := hq
  rw [q2]
  refine mj_iload (i := 5) (q := 585) dL_law_583 rfl rfl ?_
  refine mj_icmp_eq (tgt := 590) (q := 588) dL_law_585 (by decide) rfl (fun c_585 => ?_) (fun c_585 => absurd rfl c_585)
  refine mj_iload (i := 5) (q := 592) dL_law_590 rfl rfl ?_
  refine mj_if_ne (tgt := 607) (q := 595) dL_law_592 (by decide) rfl (fun c_592 => absurd rfl c_592) (fun c_592 => ?_)
  refine mj_aload_n (i := 3) (q := 596) dL_law_595 rfl rfl rfl ?_
  refine mj_num1 (v := 0) (q := 597) rfl dL_law_596 rfl ?_
  refine mj_laldv (L := 1) (x := 0) (k := 0) (v := Int32.toInt64 (v_fill v1)) (q := 598) dL_law_597 rfl (q3.trans k149) (by unfold vp_in; decide) (by decide) (by rw [q4]; exact e9) ?_
  refine mj_iload (i := 6) (q := 600) dL_law_598 rfl rfl ?_
  refine mj_i2l (q := 601) dL_law_600 rfl ?_
  refine mj_lcmp (q := 602) dL_law_601 rfl ?_
  refine mj_if_eq (tgt := 607) (q := 605) dL_law_602 (by decide) rfl (fun c_602 => ?_) (fun c_602 => absurd ((lg_cmp_eq _ _).mpr rfl) c_602)
  refine mj_goto (q := 1811) dL_law_607 (by decide) ?_
  exact c_end (q5.trans k0)
set_option maxHeartbeats 100000 in
set_option maxRecDepth 100000 in
theorem cx_fill {v1 : Int32} {K : Nat → mj_K} {f : Nat → Nat → Int32} {g : Nat → Nat → Option Nat} (hF : lw_F K f g) (k0 : K 0 = (3, 7, 0)) (w1 : f 0 1 = v1) (hx : v1 < 1 ∨ ¬ v1 ≤ 5000) : mj_W m_law 13 60 400 lw_QL 554 [.ref 0, .ref 2, .ref 145, .ref 149, .int 0, .null, .null, .null, .null] [] (150, K, f, g) := by
  obtain ⟨k1, g1, g9, k2, g2, k3, g3, k4, f2, k9, kX, gX, fX2, fX4, kY, gL, gR, fY, kL, fL, gL1, kR, fR, k149⟩ := hF
  refine mj_aload_n (i := 1) (q := 555) dL_law_554 rfl rfl rfl ?_
  refine mj_aload_n (i := 0) (q := 556) dL_law_555 rfl rfl rfl ?_
  refine mj_iload (i := 4) (q := 558) dL_law_556 rfl rfl ?_
  refine mj_num1 (v := 1) (q := 559) rfl dL_law_558 rfl ?_
  refine mj_iadd (q := 560) dL_law_559 rfl ?_
  refine mj_sldv (L := 7) (k := 1) (q := 561) dL_law_560 rfl k0 (by unfold vp_in; decide) (by decide) w1 ?_
  refine mj_aload_n (i := 3) (q := 562) dL_law_561 rfl rfl rfl ?_
  refine mj_kH3i (K := m_L_fill) (q := 565) (mc1 := 1) (ms1 := 6) (mc := 59) (ms := 394) dL_law_562 ln_L_118 ok_L_fill (Nat.le_of_ble_eq_true rfl) (by decide) rfl rfl rfl (lx_fill k1 hx) (fun r_562 h1 hq => ?_)
  obtain ⟨rfl, rfl⟩ := hq
  refine mj_istore (i := 5) (q := 567) dL_law_565 rfl (by decide) rfl ?_
  dsimp only [List.set]
  refine mj_aload_n (i := 2) (q := 568) dL_law_567 rfl rfl rfl ?_
  refine mj_aload_n (i := 0) (q := 569) dL_law_568 rfl rfl rfl ?_
  refine mj_iload (i := 4) (q := 571) dL_law_569 rfl rfl ?_
  refine mj_num1 (v := 1) (q := 572) rfl dL_law_571 rfl ?_
  refine mj_iadd (q := 573) dL_law_572 rfl ?_
  refine mj_sldv (L := 7) (k := 1) (q := 574) dL_law_573 rfl k0 (by unfold vp_in; decide) (by decide) w1 ?_
  refine mj_kV1i (K := m_X7_fill) (q := 577) (mc1 := 0) (ms1 := 0) (mc := 59) (ms := 394) dL_law_574 ln_L_120 ok_X7_fill (Nat.le_of_ble_eq_true rfl) (by decide) (mj_rc2 (x := 0) (ci := 9) (by first | assumption | simp [mj_up, mj_upl, mj_row, *]) rfl) rfl rfl rfl (rx_fill kX hx) (fun r_574 h1 hq => ?_)
  obtain ⟨rfl, n2, K2, f8, g8, rfl, q1, q2, q3, q4, q5⟩ := hq
  refine mj_istore (i := 6) (q := 579) dL_law_577 rfl (by decide) rfl ?_
  dsimp only [List.set]
  refine mj_aload_n (i := 2) (q := 580) dL_law_579 rfl rfl rfl ?_
  refine mj_kV0i (K := m_X7_thrown) (q := 583) (mc1 := 0) (ms1 := 0) (mc := 59) (ms := 394) dL_law_580 ln_L_99 ok_X7_thrown (Nat.le_of_ble_eq_true rfl) (by decide) (mj_rc2 (x := 0) (ci := 9) (by first | assumption | simp [mj_up, mj_upl, mj_row, *]) rfl) rfl rfl rfl (s_thrown q1) (fun r_580 h1 hq => ?_)
  obtain ⟨rfl, rfl⟩ := hq
  rw [q2]
  refine mj_iload (i := 5) (q := 585) dL_law_583 rfl rfl ?_
  refine mj_icmp_eq (tgt := 590) (q := 588) dL_law_585 (by decide) rfl (fun c_585 => ?_) (fun c_585 => absurd rfl c_585)
  refine mj_iload (i := 5) (q := 592) dL_law_590 rfl rfl ?_
  refine mj_if_ne (tgt := 607) (q := 595) dL_law_592 (by decide) rfl (fun c_592 => ?_) (fun c_592 => absurd c_592 (by decide))
  refine mj_goto (q := 1811) dL_law_607 (by decide) ?_
  exact c_end (q5.trans k0)
set_option maxHeartbeats 100000 in
set_option maxRecDepth 100000 in
theorem c_crowd {v1 : Int32} {K : Nat → mj_K} {f : Nat → Nat → Int32} {g : Nat → Nat → Option Nat} (hF : lw_F K f g) (k0 : K 0 = (3, 7, 0)) (w1 : f 0 1 = v1) (h1 : ¬ v1 < 0) (h2 : v1 ≤ 5000) : mj_W m_law 13 60 400 lw_QL 610 [.ref 0, .ref 2, .ref 145, .ref 149, .int 0, .null, .null, .null, .null] [] (150, K, f, g) := by
  obtain ⟨k1, g1, g9, k2, g2, k3, g3, k4, f2, k9, kX, gX, fX2, fX4, kY, gL, gR, fY, kL, fL, gL1, kR, fR, k149⟩ := hF
  refine mj_aload_n (i := 1) (q := 611) dL_law_610 rfl rfl rfl ?_
  refine mj_aload_n (i := 0) (q := 612) dL_law_611 rfl rfl rfl ?_
  refine mj_iload (i := 4) (q := 614) dL_law_612 rfl rfl ?_
  refine mj_num1 (v := 1) (q := 615) rfl dL_law_614 rfl ?_
  refine mj_iadd (q := 616) dL_law_615 rfl ?_
  refine mj_sldv (L := 7) (k := 1) (q := 617) dL_law_616 rfl k0 (by unfold vp_in; decide) (by decide) w1 ?_
  refine mj_aload_n (i := 3) (q := 618) dL_law_617 rfl rfl rfl ?_
  refine mj_kH3i (K := m_L_crowd) (q := 621) (mc1 := 1) (ms1 := 6) (mc := 59) (ms := 394) dL_law_618 ln_L_121 ok_L_crowd (Nat.le_of_ble_eq_true rfl) (by decide) rfl rfl rfl (l_crowd k1 g1 k2 f2 k149 h1 h2) (fun r_618 h1 hq => ?_)
  obtain ⟨rfl, f9, rfl, e9, z1⟩ := hq
  refine mj_istore (i := 5) (q := 623) dL_law_621 rfl (by decide) rfl ?_
  dsimp only [List.set]
  refine mj_aload_n (i := 2) (q := 624) dL_law_623 rfl rfl rfl ?_
  refine mj_aload_n (i := 0) (q := 625) dL_law_624 rfl rfl rfl ?_
  refine mj_iload (i := 4) (q := 627) dL_law_625 rfl rfl ?_
  refine mj_num1 (v := 1) (q := 628) rfl dL_law_627 rfl ?_
  refine mj_iadd (q := 629) dL_law_628 rfl ?_
  refine mj_sldv (L := 7) (k := 1) (q := 630) dL_law_629 rfl k0 (by unfold vp_in; decide) (by decide) ((congrFun (z1 0 (Or.inl rfl)) 1).trans w1) ?_
  refine mj_kV1i (K := m_X7_crowd) (q := 633) (mc1 := 0) (ms1 := 0) (mc := 59) (ms := 394) dL_law_630 ln_L_123 ok_X7_crowd (Nat.le_of_ble_eq_true rfl) (by decide) (mj_rc2 (x := 0) (ci := 9) (by first | assumption | simp [mj_up, mj_upl, mj_row, *]) rfl) rfl rfl rfl (r_crowd kX gX kY gL gR kL kR ((congrFun (z1 147 (Or.inr (by decide))) 2).trans fL) ((congrFun (z1 148 (Or.inr (by decide))) 2).trans fR) ((z1 146 (Or.inr (by decide))).trans fY) h1 h2) (fun r_630 h1 hq => ?_)
  obtain ⟨rfl, n2, K2, f8, g8, rfl, q1, q2, q3, q4, q5⟩ := hq
  refine mj_istore (i := 6) (q := 635) dL_law_633 rfl (by decide) rfl ?_
  dsimp only [List.set]
  refine mj_aload_n (i := 2) (q := 636) dL_law_635 rfl rfl rfl ?_
  refine mj_kV0i (K := m_X7_thrown) (q := 639) (mc1 := 0) (ms1 := 0) (mc := 59) (ms := 394) dL_law_636 ln_L_99 ok_X7_thrown (Nat.le_of_ble_eq_true rfl) (by decide) (mj_rc2 (x := 0) (ci := 9) (by first | assumption | simp [mj_up, mj_upl, mj_row, *]) rfl) rfl rfl rfl (s_thrown q1) (fun r_636 h1 hq => ?_)
  obtain ⟨rfl, rfl⟩ := hq
  rw [q2]
  refine mj_iload (i := 5) (q := 641) dL_law_639 rfl rfl ?_
  refine mj_icmp_eq (tgt := 646) (q := 644) dL_law_641 (by decide) rfl (fun c_641 => ?_) (fun c_641 => absurd rfl c_641)
  refine mj_iload (i := 5) (q := 648) dL_law_646 rfl rfl ?_
  refine mj_if_ne (tgt := 663) (q := 651) dL_law_648 (by decide) rfl (fun c_648 => absurd rfl c_648) (fun c_648 => ?_)
  refine mj_aload_n (i := 3) (q := 652) dL_law_651 rfl rfl rfl ?_
  refine mj_num1 (v := 0) (q := 653) rfl dL_law_652 rfl ?_
  refine mj_laldv (L := 1) (x := 0) (k := 0) (v := Int32.toInt64 (0)) (q := 654) dL_law_653 rfl (q3.trans k149) (by unfold vp_in; decide) (by decide) (by rw [q4]; exact e9) ?_
  refine mj_iload (i := 6) (q := 656) dL_law_654 rfl rfl ?_
  refine mj_i2l (q := 657) dL_law_656 rfl ?_
  refine mj_lcmp (q := 658) dL_law_657 rfl ?_
  refine mj_if_eq (tgt := 663) (q := 661) dL_law_658 (by decide) rfl (fun c_658 => ?_) (fun c_658 => absurd ((lg_cmp_eq _ _).mpr rfl) c_658)
  refine mj_goto (q := 1811) dL_law_663 (by decide) ?_
  exact c_end (q5.trans k0)
set_option maxHeartbeats 100000 in
set_option maxRecDepth 100000 in
theorem cx_crowd {v1 : Int32} {K : Nat → mj_K} {f : Nat → Nat → Int32} {g : Nat → Nat → Option Nat} (hF : lw_F K f g) (k0 : K 0 = (3, 7, 0)) (w1 : f 0 1 = v1) (hx : v1 < 0 ∨ ¬ v1 ≤ 5000) : mj_W m_law 13 60 400 lw_QL 610 [.ref 0, .ref 2, .ref 145, .ref 149, .int 0, .null, .null, .null, .null] [] (150, K, f, g) := by
  obtain ⟨k1, g1, g9, k2, g2, k3, g3, k4, f2, k9, kX, gX, fX2, fX4, kY, gL, gR, fY, kL, fL, gL1, kR, fR, k149⟩ := hF
  refine mj_aload_n (i := 1) (q := 611) dL_law_610 rfl rfl rfl ?_
  refine mj_aload_n (i := 0) (q := 612) dL_law_611 rfl rfl rfl ?_
  refine mj_iload (i := 4) (q := 614) dL_law_612 rfl rfl ?_
  refine mj_num1 (v := 1) (q := 615) rfl dL_law_614 rfl ?_
  refine mj_iadd (q := 616) dL_law_615 rfl ?_
  refine mj_sldv (L := 7) (k := 1) (q := 617) dL_law_616 rfl k0 (by unfold vp_in; decide) (by decide) w1 ?_
  refine mj_aload_n (i := 3) (q := 618) dL_law_617 rfl rfl rfl ?_
  refine mj_kH3i (K := m_L_crowd) (q := 621) (mc1 := 1) (ms1 := 6) (mc := 59) (ms := 394) dL_law_618 ln_L_121 ok_L_crowd (Nat.le_of_ble_eq_true rfl) (by decide) rfl rfl rfl (lx_crowd k1 hx) (fun r_618 h1 hq => ?_)
  obtain ⟨rfl, rfl⟩ := hq
  refine mj_istore (i := 5) (q := 623) dL_law_621 rfl (by decide) rfl ?_
  dsimp only [List.set]
  refine mj_aload_n (i := 2) (q := 624) dL_law_623 rfl rfl rfl ?_
  refine mj_aload_n (i := 0) (q := 625) dL_law_624 rfl rfl rfl ?_
  refine mj_iload (i := 4) (q := 627) dL_law_625 rfl rfl ?_
  refine mj_num1 (v := 1) (q := 628) rfl dL_law_627 rfl ?_
  refine mj_iadd (q := 629) dL_law_628 rfl ?_
  refine mj_sldv (L := 7) (k := 1) (q := 630) dL_law_629 rfl k0 (by unfold vp_in; decide) (by decide) w1 ?_
  refine mj_kV1i (K := m_X7_crowd) (q := 633) (mc1 := 0) (ms1 := 0) (mc := 59) (ms := 394) dL_law_630 ln_L_123 ok_X7_crowd (Nat.le_of_ble_eq_true rfl) (by decide) (mj_rc2 (x := 0) (ci := 9) (by first | assumption | simp [mj_up, mj_upl, mj_row, *]) rfl) rfl rfl rfl (rx_crowd kX hx) (fun r_630 h1 hq => ?_)
  obtain ⟨rfl, n2, K2, f8, g8, rfl, q1, q2, q3, q4, q5⟩ := hq
  refine mj_istore (i := 6) (q := 635) dL_law_633 rfl (by decide) rfl ?_
  dsimp only [List.set]
  refine mj_aload_n (i := 2) (q := 636) dL_law_635 rfl rfl rfl ?_
  refine mj_kV0i (K := m_X7_thrown) (q := 639) (mc1 := 0) (ms1 := 0) (mc := 59) (ms := 394) dL_law_636 ln_L_99 ok_X7_thrown (Nat.le_of_ble_eq_true rfl) (by decide) (mj_rc2 (x := 0) (ci := 9) (by first | assumption | simp [mj_up, mj_upl, mj_row, *]) rfl) rfl rfl rfl (s_thrown q1) (fun r_636 h1 hq => ?_)
  obtain ⟨rfl, rfl⟩ := hq
  rw [q2]
  refine mj_iload (i := 5) (q := 641) dL_law_639 rfl rfl ?_
  refine mj_icmp_eq (tgt := 646) (q := 644) dL_law_641 (by decide) rfl (fun c_641 => ?_) (fun c_641 => absurd rfl c_641)
  refine mj_iload (i := 5) (q := 648) dL_law_646 rfl rfl ?_
  refine mj_if_ne (tgt := 663) (q := 651) dL_law_648 (by decide) rfl (fun c_648 => ?_) (fun c_648 => absurd c_648 (by decide))
  refine mj_goto (q := 1811) dL_law_663 (by decide) ?_
  exact c_end (q5.trans k0)
set_option maxHeartbeats 100000 in
set_option maxRecDepth 100000 in
theorem c_pass {v1 v2 v3 v4 v5 v6 : Int32} {K : Nat → mj_K} {f : Nat → Nat → Int32} {g : Nat → Nat → Option Nat} (hF : lw_F K f g) (k0 : K 0 = (3, 7, 0)) (w1 : f 0 1 = v1) (w2 : f 0 2 = v2) (w3 : f 0 3 = v3) (w4 : f 0 4 = v4) (w5 : f 0 5 = v5) (w6 : f 0 6 = v6) (h0a : ¬ v1 < 1) (h0b : v1 ≤ 48) (h1a : ¬ v2 < -20) (h1b : v2 ≤ 20) (h2a : ¬ v3 < 0) (h2b : v3 ≤ 9) (h3a : ¬ v4 < 0) (h3b : v4 ≤ 9) (h4a : ¬ v5 < 0) (h4b : v5 ≤ 3) (h5a : ¬ v6 < 0) (h5b : v6 ≤ 100) : mj_W m_law 13 60 400 lw_QL 666 [.ref 0, .ref 2, .ref 145, .ref 149, .int 0, .null, .null, .null, .null] [] (150, K, f, g) := by
  obtain ⟨k1, g1, g9, k2, g2, k3, g3, k4, f2, k9, kX, gX, fX2, fX4, kY, gL, gR, fY, kL, fL, gL1, kR, fR, k149⟩ := hF
  refine mj_aload_n (i := 1) (q := 667) dL_law_666 rfl rfl rfl ?_
  refine mj_aload_n (i := 0) (q := 668) dL_law_667 rfl rfl rfl ?_
  refine mj_iload (i := 4) (q := 670) dL_law_668 rfl rfl ?_
  refine mj_num1 (v := 1) (q := 671) rfl dL_law_670 rfl ?_
  refine mj_iadd (q := 672) dL_law_671 rfl ?_
  refine mj_sldv (L := 7) (k := 1) (q := 673) dL_law_672 rfl k0 (by unfold vp_in; decide) (by decide) w1 ?_
  refine mj_aload_n (i := 0) (q := 674) dL_law_673 rfl rfl rfl ?_
  refine mj_iload (i := 4) (q := 676) dL_law_674 rfl rfl ?_
  refine mj_num1 (v := 2) (q := 677) rfl dL_law_676 rfl ?_
  refine mj_iadd (q := 678) dL_law_677 rfl ?_
  refine mj_sldv (L := 7) (k := 2) (q := 679) dL_law_678 rfl k0 (by unfold vp_in; decide) (by decide) w2 ?_
  refine mj_aload_n (i := 0) (q := 680) dL_law_679 rfl rfl rfl ?_
  refine mj_iload (i := 4) (q := 682) dL_law_680 rfl rfl ?_
  refine mj_num1 (v := 3) (q := 683) rfl dL_law_682 rfl ?_
  refine mj_iadd (q := 684) dL_law_683 rfl ?_
  refine mj_sldv (L := 7) (k := 3) (q := 685) dL_law_684 rfl k0 (by unfold vp_in; decide) (by decide) w3 ?_
  refine mj_aload_n (i := 0) (q := 686) dL_law_685 rfl rfl rfl ?_
  refine mj_iload (i := 4) (q := 688) dL_law_686 rfl rfl ?_
  refine mj_num1 (v := 4) (q := 689) rfl dL_law_688 rfl ?_
  refine mj_iadd (q := 690) dL_law_689 rfl ?_
  refine mj_sldv (L := 7) (k := 4) (q := 691) dL_law_690 rfl k0 (by unfold vp_in; decide) (by decide) w4 ?_
  refine mj_aload_n (i := 0) (q := 692) dL_law_691 rfl rfl rfl ?_
  refine mj_iload (i := 4) (q := 694) dL_law_692 rfl rfl ?_
  refine mj_num1 (v := 5) (q := 695) rfl dL_law_694 rfl ?_
  refine mj_iadd (q := 696) dL_law_695 rfl ?_
  refine mj_sldv (L := 7) (k := 5) (q := 697) dL_law_696 rfl k0 (by unfold vp_in; decide) (by decide) w5 ?_
  refine mj_aload_n (i := 0) (q := 698) dL_law_697 rfl rfl rfl ?_
  refine mj_iload (i := 4) (q := 700) dL_law_698 rfl rfl ?_
  refine mj_num2 (v := 6) (q := 702) (by decide) dL_law_700 rfl ?_
  refine mj_iadd (q := 703) dL_law_702 rfl ?_
  refine mj_sldv (L := 7) (k := 6) (q := 704) dL_law_703 rfl k0 (by unfold vp_in; decide) (by decide) w6 ?_
  refine mj_aload_n (i := 3) (q := 705) dL_law_704 rfl rfl rfl ?_
  refine mj_kH8i (K := m_L_pass) (q := 708) (mc1 := 1) (ms1 := 6) (mc := 59) (ms := 394) dL_law_705 ln_L_124 ok_L_pass (Nat.le_of_ble_eq_true rfl) (by decide) rfl rfl rfl (l_pass k1 g1 k2 f2 k149 g9 k9 h0a h0b h1a h1b h2a h2b h3a h3b h4a h4b h5a h5b) (fun r_705 h1 hq => ?_)
  obtain ⟨rfl, f9, rfl, e9, z1⟩ := hq
  refine mj_istore (i := 5) (q := 710) dL_law_708 rfl (by decide) rfl ?_
  dsimp only [List.set]
  refine mj_aload_n (i := 2) (q := 711) dL_law_710 rfl rfl rfl ?_
  refine mj_aload_n (i := 0) (q := 712) dL_law_711 rfl rfl rfl ?_
  refine mj_iload (i := 4) (q := 714) dL_law_712 rfl rfl ?_
  refine mj_num1 (v := 1) (q := 715) rfl dL_law_714 rfl ?_
  refine mj_iadd (q := 716) dL_law_715 rfl ?_
  refine mj_sldv (L := 7) (k := 1) (q := 717) dL_law_716 rfl k0 (by unfold vp_in; decide) (by decide) ((congrFun (z1 0 (Or.inl rfl)) 1).trans w1) ?_
  refine mj_aload_n (i := 0) (q := 718) dL_law_717 rfl rfl rfl ?_
  refine mj_iload (i := 4) (q := 720) dL_law_718 rfl rfl ?_
  refine mj_num1 (v := 2) (q := 721) rfl dL_law_720 rfl ?_
  refine mj_iadd (q := 722) dL_law_721 rfl ?_
  refine mj_sldv (L := 7) (k := 2) (q := 723) dL_law_722 rfl k0 (by unfold vp_in; decide) (by decide) ((congrFun (z1 0 (Or.inl rfl)) 2).trans w2) ?_
  refine mj_aload_n (i := 0) (q := 724) dL_law_723 rfl rfl rfl ?_
  refine mj_iload (i := 4) (q := 726) dL_law_724 rfl rfl ?_
  refine mj_num1 (v := 3) (q := 727) rfl dL_law_726 rfl ?_
  refine mj_iadd (q := 728) dL_law_727 rfl ?_
  refine mj_sldv (L := 7) (k := 3) (q := 729) dL_law_728 rfl k0 (by unfold vp_in; decide) (by decide) ((congrFun (z1 0 (Or.inl rfl)) 3).trans w3) ?_
  refine mj_aload_n (i := 0) (q := 730) dL_law_729 rfl rfl rfl ?_
  refine mj_iload (i := 4) (q := 732) dL_law_730 rfl rfl ?_
  refine mj_num1 (v := 4) (q := 733) rfl dL_law_732 rfl ?_
  refine mj_iadd (q := 734) dL_law_733 rfl ?_
  refine mj_sldv (L := 7) (k := 4) (q := 735) dL_law_734 rfl k0 (by unfold vp_in; decide) (by decide) ((congrFun (z1 0 (Or.inl rfl)) 4).trans w4) ?_
  refine mj_aload_n (i := 0) (q := 736) dL_law_735 rfl rfl rfl ?_
  refine mj_iload (i := 4) (q := 738) dL_law_736 rfl rfl ?_
  refine mj_num1 (v := 5) (q := 739) rfl dL_law_738 rfl ?_
  refine mj_iadd (q := 740) dL_law_739 rfl ?_
  refine mj_sldv (L := 7) (k := 5) (q := 741) dL_law_740 rfl k0 (by unfold vp_in; decide) (by decide) ((congrFun (z1 0 (Or.inl rfl)) 5).trans w5) ?_
  refine mj_aload_n (i := 0) (q := 742) dL_law_741 rfl rfl rfl ?_
  refine mj_iload (i := 4) (q := 744) dL_law_742 rfl rfl ?_
  refine mj_num2 (v := 6) (q := 746) (by decide) dL_law_744 rfl ?_
  refine mj_iadd (q := 747) dL_law_746 rfl ?_
  refine mj_sldv (L := 7) (k := 6) (q := 748) dL_law_747 rfl k0 (by unfold vp_in; decide) (by decide) ((congrFun (z1 0 (Or.inl rfl)) 6).trans w6) ?_
  refine mj_kV6i (K := m_X7_pass) (q := 751) (mc1 := 48) (ms1 := 192) (mc := 11) (ms := 202) dL_law_748 ln_L_127 ok_X7_pass (Nat.le_of_ble_eq_true rfl) (by decide) (mj_rc2 (x := 0) (ci := 9) (by first | assumption | simp [mj_up, mj_upl, mj_row, *]) rfl) rfl rfl rfl (r_pass kX gX kY gL gR kL kR ((congrFun (z1 147 (Or.inr (by decide))) 2).trans fL) ((congrFun (z1 148 (Or.inr (by decide))) 2).trans fR) ((z1 146 (Or.inr (by decide))).trans fY) (by omega) h0a h0b h1a h1b h2a h2b h3a h3b h4a h4b h5a h5b) (fun r_748 h1 hq => ?_)
  obtain ⟨rfl, n2, K2, f8, g8, rfl, q1, q2, q3, q4, q5⟩ := hq
  refine mj_istore (i := 6) (q := 753) dL_law_751 rfl (by decide) rfl ?_
  dsimp only [List.set]
  refine mj_aload_n (i := 2) (q := 754) dL_law_753 rfl rfl rfl ?_
  refine mj_kV0i (K := m_X7_thrown) (q := 757) (mc1 := 0) (ms1 := 0) (mc := 11) (ms := 202) dL_law_754 ln_L_99 ok_X7_thrown (Nat.le_of_ble_eq_true rfl) (by decide) (mj_rc2 (x := 0) (ci := 9) (by first | assumption | simp [mj_up, mj_upl, mj_row, *]) rfl) rfl rfl rfl (s_thrown q1) (fun r_754 h1 hq => ?_)
  obtain ⟨rfl, rfl⟩ := hq
  rw [q2]
  refine mj_iload (i := 5) (q := 759) dL_law_757 rfl rfl ?_
  refine mj_icmp_eq (tgt := 764) (q := 762) dL_law_759 (by decide) rfl (fun c_759 => ?_) (fun c_759 => absurd rfl c_759)
  refine mj_iload (i := 5) (q := 766) dL_law_764 rfl rfl ?_
  refine mj_if_ne (tgt := 781) (q := 769) dL_law_766 (by decide) rfl (fun c_766 => absurd rfl c_766) (fun c_766 => ?_)
  refine mj_aload_n (i := 3) (q := 770) dL_law_769 rfl rfl rfl ?_
  refine mj_num1 (v := 0) (q := 771) rfl dL_law_770 rfl ?_
  refine mj_laldv (L := 1) (x := 0) (k := 0) (v := Int32.toInt64 (0)) (q := 772) dL_law_771 rfl (q3.trans k149) (by unfold vp_in; decide) (by decide) (by rw [q4]; exact e9) ?_
  refine mj_iload (i := 6) (q := 774) dL_law_772 rfl rfl ?_
  refine mj_i2l (q := 775) dL_law_774 rfl ?_
  refine mj_lcmp (q := 776) dL_law_775 rfl ?_
  refine mj_if_eq (tgt := 781) (q := 779) dL_law_776 (by decide) rfl (fun c_776 => ?_) (fun c_776 => absurd ((lg_cmp_eq _ _).mpr rfl) c_776)
  refine mj_goto (q := 1811) dL_law_781 (by decide) ?_
  exact c_end (q5.trans k0)
set_option maxHeartbeats 100000 in
set_option maxRecDepth 100000 in
theorem cx_pass {v1 v2 v3 v4 v5 v6 : Int32} {K : Nat → mj_K} {f : Nat → Nat → Int32} {g : Nat → Nat → Option Nat} (hF : lw_F K f g) (k0 : K 0 = (3, 7, 0)) (w1 : f 0 1 = v1) (w2 : f 0 2 = v2) (w3 : f 0 3 = v3) (w4 : f 0 4 = v4) (w5 : f 0 5 = v5) (w6 : f 0 6 = v6) (hx : ¬ ((¬ v1 < 1 ∧ v1 ≤ 48) ∧ (¬ v2 < -20 ∧ v2 ≤ 20) ∧ (¬ v3 < 0 ∧ v3 ≤ 9) ∧ (¬ v4 < 0 ∧ v4 ≤ 9) ∧ (¬ v5 < 0 ∧ v5 ≤ 3) ∧ (¬ v6 < 0 ∧ v6 ≤ 100))) : mj_W m_law 13 60 400 lw_QL 666 [.ref 0, .ref 2, .ref 145, .ref 149, .int 0, .null, .null, .null, .null] [] (150, K, f, g) := by
  obtain ⟨k1, g1, g9, k2, g2, k3, g3, k4, f2, k9, kX, gX, fX2, fX4, kY, gL, gR, fY, kL, fL, gL1, kR, fR, k149⟩ := hF
  refine mj_aload_n (i := 1) (q := 667) dL_law_666 rfl rfl rfl ?_
  refine mj_aload_n (i := 0) (q := 668) dL_law_667 rfl rfl rfl ?_
  refine mj_iload (i := 4) (q := 670) dL_law_668 rfl rfl ?_
  refine mj_num1 (v := 1) (q := 671) rfl dL_law_670 rfl ?_
  refine mj_iadd (q := 672) dL_law_671 rfl ?_
  refine mj_sldv (L := 7) (k := 1) (q := 673) dL_law_672 rfl k0 (by unfold vp_in; decide) (by decide) w1 ?_
  refine mj_aload_n (i := 0) (q := 674) dL_law_673 rfl rfl rfl ?_
  refine mj_iload (i := 4) (q := 676) dL_law_674 rfl rfl ?_
  refine mj_num1 (v := 2) (q := 677) rfl dL_law_676 rfl ?_
  refine mj_iadd (q := 678) dL_law_677 rfl ?_
  refine mj_sldv (L := 7) (k := 2) (q := 679) dL_law_678 rfl k0 (by unfold vp_in; decide) (by decide) w2 ?_
  refine mj_aload_n (i := 0) (q := 680) dL_law_679 rfl rfl rfl ?_
  refine mj_iload (i := 4) (q := 682) dL_law_680 rfl rfl ?_
  refine mj_num1 (v := 3) (q := 683) rfl dL_law_682 rfl ?_
  refine mj_iadd (q := 684) dL_law_683 rfl ?_
  refine mj_sldv (L := 7) (k := 3) (q := 685) dL_law_684 rfl k0 (by unfold vp_in; decide) (by decide) w3 ?_
  refine mj_aload_n (i := 0) (q := 686) dL_law_685 rfl rfl rfl ?_
  refine mj_iload (i := 4) (q := 688) dL_law_686 rfl rfl ?_
  refine mj_num1 (v := 4) (q := 689) rfl dL_law_688 rfl ?_
  refine mj_iadd (q := 690) dL_law_689 rfl ?_
  refine mj_sldv (L := 7) (k := 4) (q := 691) dL_law_690 rfl k0 (by unfold vp_in; decide) (by decide) w4 ?_
  refine mj_aload_n (i := 0) (q := 692) dL_law_691 rfl rfl rfl ?_
  refine mj_iload (i := 4) (q := 694) dL_law_692 rfl rfl ?_
  refine mj_num1 (v := 5) (q := 695) rfl dL_law_694 rfl ?_
  refine mj_iadd (q := 696) dL_law_695 rfl ?_
  refine mj_sldv (L := 7) (k := 5) (q := 697) dL_law_696 rfl k0 (by unfold vp_in; decide) (by decide) w5 ?_
  refine mj_aload_n (i := 0) (q := 698) dL_law_697 rfl rfl rfl ?_
  refine mj_iload (i := 4) (q := 700) dL_law_698 rfl rfl ?_
  refine mj_num2 (v := 6) (q := 702) (by decide) dL_law_700 rfl ?_
  refine mj_iadd (q := 703) dL_law_702 rfl ?_
  refine mj_sldv (L := 7) (k := 6) (q := 704) dL_law_703 rfl k0 (by unfold vp_in; decide) (by decide) w6 ?_
  refine mj_aload_n (i := 3) (q := 705) dL_law_704 rfl rfl rfl ?_
  refine mj_kH8i (K := m_L_pass) (q := 708) (mc1 := 1) (ms1 := 6) (mc := 59) (ms := 394) dL_law_705 ln_L_124 ok_L_pass (Nat.le_of_ble_eq_true rfl) (by decide) rfl rfl rfl (lx_pass k1 hx) (fun r_705 h1 hq => ?_)
  obtain ⟨rfl, rfl⟩ := hq
  refine mj_istore (i := 5) (q := 710) dL_law_708 rfl (by decide) rfl ?_
  dsimp only [List.set]
  refine mj_aload_n (i := 2) (q := 711) dL_law_710 rfl rfl rfl ?_
  refine mj_aload_n (i := 0) (q := 712) dL_law_711 rfl rfl rfl ?_
  refine mj_iload (i := 4) (q := 714) dL_law_712 rfl rfl ?_
  refine mj_num1 (v := 1) (q := 715) rfl dL_law_714 rfl ?_
  refine mj_iadd (q := 716) dL_law_715 rfl ?_
  refine mj_sldv (L := 7) (k := 1) (q := 717) dL_law_716 rfl k0 (by unfold vp_in; decide) (by decide) w1 ?_
  refine mj_aload_n (i := 0) (q := 718) dL_law_717 rfl rfl rfl ?_
  refine mj_iload (i := 4) (q := 720) dL_law_718 rfl rfl ?_
  refine mj_num1 (v := 2) (q := 721) rfl dL_law_720 rfl ?_
  refine mj_iadd (q := 722) dL_law_721 rfl ?_
  refine mj_sldv (L := 7) (k := 2) (q := 723) dL_law_722 rfl k0 (by unfold vp_in; decide) (by decide) w2 ?_
  refine mj_aload_n (i := 0) (q := 724) dL_law_723 rfl rfl rfl ?_
  refine mj_iload (i := 4) (q := 726) dL_law_724 rfl rfl ?_
  refine mj_num1 (v := 3) (q := 727) rfl dL_law_726 rfl ?_
  refine mj_iadd (q := 728) dL_law_727 rfl ?_
  refine mj_sldv (L := 7) (k := 3) (q := 729) dL_law_728 rfl k0 (by unfold vp_in; decide) (by decide) w3 ?_
  refine mj_aload_n (i := 0) (q := 730) dL_law_729 rfl rfl rfl ?_
  refine mj_iload (i := 4) (q := 732) dL_law_730 rfl rfl ?_
  refine mj_num1 (v := 4) (q := 733) rfl dL_law_732 rfl ?_
  refine mj_iadd (q := 734) dL_law_733 rfl ?_
  refine mj_sldv (L := 7) (k := 4) (q := 735) dL_law_734 rfl k0 (by unfold vp_in; decide) (by decide) w4 ?_
  refine mj_aload_n (i := 0) (q := 736) dL_law_735 rfl rfl rfl ?_
  refine mj_iload (i := 4) (q := 738) dL_law_736 rfl rfl ?_
  refine mj_num1 (v := 5) (q := 739) rfl dL_law_738 rfl ?_
  refine mj_iadd (q := 740) dL_law_739 rfl ?_
  refine mj_sldv (L := 7) (k := 5) (q := 741) dL_law_740 rfl k0 (by unfold vp_in; decide) (by decide) w5 ?_
  refine mj_aload_n (i := 0) (q := 742) dL_law_741 rfl rfl rfl ?_
  refine mj_iload (i := 4) (q := 744) dL_law_742 rfl rfl ?_
  refine mj_num2 (v := 6) (q := 746) (by decide) dL_law_744 rfl ?_
  refine mj_iadd (q := 747) dL_law_746 rfl ?_
  refine mj_sldv (L := 7) (k := 6) (q := 748) dL_law_747 rfl k0 (by unfold vp_in; decide) (by decide) w6 ?_
  refine mj_kV6i (K := m_X7_pass) (q := 751) (mc1 := 0) (ms1 := 0) (mc := 59) (ms := 394) dL_law_748 ln_L_127 ok_X7_pass (Nat.le_of_ble_eq_true rfl) (by decide) (mj_rc2 (x := 0) (ci := 9) (by first | assumption | simp [mj_up, mj_upl, mj_row, *]) rfl) rfl rfl rfl (rx_pass kX hx) (fun r_748 h1 hq => ?_)
  obtain ⟨rfl, n2, K2, f8, g8, rfl, q1, q2, q3, q4, q5⟩ := hq
  refine mj_istore (i := 6) (q := 753) dL_law_751 rfl (by decide) rfl ?_
  dsimp only [List.set]
  refine mj_aload_n (i := 2) (q := 754) dL_law_753 rfl rfl rfl ?_
  refine mj_kV0i (K := m_X7_thrown) (q := 757) (mc1 := 0) (ms1 := 0) (mc := 59) (ms := 394) dL_law_754 ln_L_99 ok_X7_thrown (Nat.le_of_ble_eq_true rfl) (by decide) (mj_rc2 (x := 0) (ci := 9) (by first | assumption | simp [mj_up, mj_upl, mj_row, *]) rfl) rfl rfl rfl (s_thrown q1) (fun r_754 h1 hq => ?_)
  obtain ⟨rfl, rfl⟩ := hq
  rw [q2]
  refine mj_iload (i := 5) (q := 759) dL_law_757 rfl rfl ?_
  refine mj_icmp_eq (tgt := 764) (q := 762) dL_law_759 (by decide) rfl (fun c_759 => ?_) (fun c_759 => absurd rfl c_759)
  refine mj_iload (i := 5) (q := 766) dL_law_764 rfl rfl ?_
  refine mj_if_ne (tgt := 781) (q := 769) dL_law_766 (by decide) rfl (fun c_766 => ?_) (fun c_766 => absurd c_766 (by decide))
  refine mj_goto (q := 1811) dL_law_781 (by decide) ?_
  exact c_end (q5.trans k0)
set_option maxHeartbeats 100000 in
set_option maxRecDepth 100000 in
theorem c_blast {v1 : Int32} {K : Nat → mj_K} {f : Nat → Nat → Int32} {g : Nat → Nat → Option Nat} (hF : lw_F K f g) (k0 : K 0 = (3, 7, 0)) (w1 : f 0 1 = v1) : mj_W m_law 13 60 400 lw_QL 784 [.ref 0, .ref 2, .ref 145, .ref 149, .int 0, .null, .null, .null, .null] [] (150, K, f, g) := by
  obtain ⟨k1, g1, g9, k2, g2, k3, g3, k4, f2, k9, kX, gX, fX2, fX4, kY, gL, gR, fY, kL, fL, gL1, kR, fR, k149⟩ := hF
  refine mj_aload_n (i := 1) (q := 785) dL_law_784 rfl rfl rfl ?_
  refine mj_aload_n (i := 0) (q := 786) dL_law_785 rfl rfl rfl ?_
  refine mj_iload (i := 4) (q := 788) dL_law_786 rfl rfl ?_
  refine mj_num1 (v := 1) (q := 789) rfl dL_law_788 rfl ?_
  refine mj_iadd (q := 790) dL_law_789 rfl ?_
  refine mj_sldv (L := 7) (k := 1) (q := 791) dL_law_790 rfl k0 (by unfold vp_in; decide) (by decide) w1 ?_
  refine mj_aload_n (i := 3) (q := 792) dL_law_791 rfl rfl rfl ?_
  refine mj_kH3i (K := m_L_blast) (q := 795) (mc1 := 1) (ms1 := 6) (mc := 59) (ms := 394) dL_law_792 ln_L_128 ok_L_blast (Nat.le_of_ble_eq_true rfl) (by decide) rfl rfl rfl (l_blast k1 g1 k2 f2 k149) (fun r_792 h1 hq => ?_)
  obtain ⟨rfl, rfl⟩ := hq
  refine mj_istore (i := 5) (q := 797) dL_law_795 rfl (by decide) rfl ?_
  dsimp only [List.set]
  refine mj_aload_n (i := 2) (q := 798) dL_law_797 rfl rfl rfl ?_
  refine mj_aload_n (i := 0) (q := 799) dL_law_798 rfl rfl rfl ?_
  refine mj_iload (i := 4) (q := 801) dL_law_799 rfl rfl ?_
  refine mj_num1 (v := 1) (q := 802) rfl dL_law_801 rfl ?_
  refine mj_iadd (q := 803) dL_law_802 rfl ?_
  refine mj_sldv (L := 7) (k := 1) (q := 804) dL_law_803 rfl k0 (by unfold vp_in; decide) (by decide) w1 ?_
  refine mj_kV1i (K := m_X7_blast) (q := 807) (mc1 := 0) (ms1 := 0) (mc := 59) (ms := 394) dL_law_804 ln_L_130 ok_X7_blast (Nat.le_of_ble_eq_true rfl) (by decide) (mj_rc2 (x := 0) (ci := 9) (by first | assumption | simp [mj_up, mj_upl, mj_row, *]) rfl) rfl rfl rfl (r_blast kX gX kY gL gR kL kR fL fR) (fun r_804 h1 hq => ?_)
  obtain ⟨rfl, n2, K2, f8, g8, rfl, q1, q2, q3, q4, q5⟩ := hq
  refine mj_istore (i := 6) (q := 809) dL_law_807 rfl (by decide) rfl ?_
  dsimp only [List.set]
  refine mj_aload_n (i := 2) (q := 810) dL_law_809 rfl rfl rfl ?_
  refine mj_kV0i (K := m_X7_thrown) (q := 813) (mc1 := 0) (ms1 := 0) (mc := 59) (ms := 394) dL_law_810 ln_L_99 ok_X7_thrown (Nat.le_of_ble_eq_true rfl) (by decide) (mj_rc2 (x := 0) (ci := 9) (by first | assumption | simp [mj_up, mj_upl, mj_row, *]) rfl) rfl rfl rfl (s_thrown q1) (fun r_810 h1 hq => ?_)
  obtain ⟨rfl, rfl⟩ := hq
  rw [q2]
  refine mj_iload (i := 5) (q := 815) dL_law_813 rfl rfl ?_
  refine mj_icmp_eq (tgt := 820) (q := 818) dL_law_815 (by decide) rfl (fun c_815 => ?_) (fun c_815 => absurd rfl c_815)
  refine mj_iload (i := 5) (q := 822) dL_law_820 rfl rfl ?_
  refine mj_if_ne (tgt := 837) (q := 825) dL_law_822 (by decide) rfl (fun c_822 => ?_) (fun c_822 => absurd c_822 (by decide))
  refine mj_goto (q := 1811) dL_law_837 (by decide) ?_
  exact c_end (q5.trans k0)
set_option maxHeartbeats 100000 in
set_option maxRecDepth 100000 in
theorem c_search {v1 : Int32} {K : Nat → mj_K} {f : Nat → Nat → Int32} {g : Nat → Nat → Option Nat} (hF : lw_F K f g) (k0 : K 0 = (3, 7, 0)) (w1 : f 0 1 = v1) : mj_W m_law 13 60 400 lw_QL 840 [.ref 0, .ref 2, .ref 145, .ref 149, .int 0, .null, .null, .null, .null] [] (150, K, f, g) := by
  obtain ⟨k1, g1, g9, k2, g2, k3, g3, k4, f2, k9, kX, gX, fX2, fX4, kY, gL, gR, fY, kL, fL, gL1, kR, fR, k149⟩ := hF
  refine mj_aload_n (i := 1) (q := 841) dL_law_840 rfl rfl rfl ?_
  refine mj_aload_n (i := 0) (q := 842) dL_law_841 rfl rfl rfl ?_
  refine mj_iload (i := 4) (q := 844) dL_law_842 rfl rfl ?_
  refine mj_num1 (v := 1) (q := 845) rfl dL_law_844 rfl ?_
  refine mj_iadd (q := 846) dL_law_845 rfl ?_
  refine mj_sldv (L := 7) (k := 1) (q := 847) dL_law_846 rfl k0 (by unfold vp_in; decide) (by decide) w1 ?_
  refine mj_aload_n (i := 3) (q := 848) dL_law_847 rfl rfl rfl ?_
  refine mj_kH3i (K := m_L_search) (q := 851) (mc1 := 1) (ms1 := 6) (mc := 59) (ms := 394) dL_law_848 ln_L_131 ok_L_search (Nat.le_of_ble_eq_true rfl) (by decide) rfl rfl rfl (l_search k1 g1 k2 f2 k149) (fun r_848 h1 hq => ?_)
  obtain ⟨rfl, rfl⟩ := hq
  refine mj_istore (i := 5) (q := 853) dL_law_851 rfl (by decide) rfl ?_
  dsimp only [List.set]
  refine mj_aload_n (i := 2) (q := 854) dL_law_853 rfl rfl rfl ?_
  refine mj_aload_n (i := 0) (q := 855) dL_law_854 rfl rfl rfl ?_
  refine mj_iload (i := 4) (q := 857) dL_law_855 rfl rfl ?_
  refine mj_num1 (v := 1) (q := 858) rfl dL_law_857 rfl ?_
  refine mj_iadd (q := 859) dL_law_858 rfl ?_
  refine mj_sldv (L := 7) (k := 1) (q := 860) dL_law_859 rfl k0 (by unfold vp_in; decide) (by decide) w1 ?_
  refine mj_kV1i (K := m_X7_search) (q := 863) (mc1 := 0) (ms1 := 0) (mc := 59) (ms := 394) dL_law_860 ln_L_133 ok_X7_search (Nat.le_of_ble_eq_true rfl) (by decide) (mj_rc2 (x := 0) (ci := 9) (by first | assumption | simp [mj_up, mj_upl, mj_row, *]) rfl) rfl rfl rfl (r_search kX gX kY gL gR kL kR fL fR) (fun r_860 h1 hq => ?_)
  obtain ⟨rfl, n2, K2, f8, g8, rfl, q1, q2, q3, q4, q5⟩ := hq
  refine mj_istore (i := 6) (q := 865) dL_law_863 rfl (by decide) rfl ?_
  dsimp only [List.set]
  refine mj_aload_n (i := 2) (q := 866) dL_law_865 rfl rfl rfl ?_
  refine mj_kV0i (K := m_X7_thrown) (q := 869) (mc1 := 0) (ms1 := 0) (mc := 59) (ms := 394) dL_law_866 ln_L_99 ok_X7_thrown (Nat.le_of_ble_eq_true rfl) (by decide) (mj_rc2 (x := 0) (ci := 9) (by first | assumption | simp [mj_up, mj_upl, mj_row, *]) rfl) rfl rfl rfl (s_thrown q1) (fun r_866 h1 hq => ?_)
  obtain ⟨rfl, rfl⟩ := hq
  rw [q2]
  refine mj_iload (i := 5) (q := 871) dL_law_869 rfl rfl ?_
  refine mj_icmp_eq (tgt := 876) (q := 874) dL_law_871 (by decide) rfl (fun c_871 => ?_) (fun c_871 => absurd rfl c_871)
  refine mj_iload (i := 5) (q := 878) dL_law_876 rfl rfl ?_
  refine mj_if_ne (tgt := 893) (q := 881) dL_law_878 (by decide) rfl (fun c_878 => ?_) (fun c_878 => absurd c_878 (by decide))
  refine mj_goto (q := 1811) dL_law_893 (by decide) ?_
  exact c_end (q5.trans k0)
set_option maxHeartbeats 100000 in
set_option maxRecDepth 100000 in
theorem c_test {v1 : Int32} {K : Nat → mj_K} {f : Nat → Nat → Int32} {g : Nat → Nat → Option Nat} (hF : lw_F K f g) (k0 : K 0 = (3, 7, 0)) (w1 : f 0 1 = v1) : mj_W m_law 13 60 400 lw_QL 896 [.ref 0, .ref 2, .ref 145, .ref 149, .int 0, .null, .null, .null, .null] [] (150, K, f, g) := by
  obtain ⟨k1, g1, g9, k2, g2, k3, g3, k4, f2, k9, kX, gX, fX2, fX4, kY, gL, gR, fY, kL, fL, gL1, kR, fR, k149⟩ := hF
  refine mj_aload_n (i := 1) (q := 897) dL_law_896 rfl rfl rfl ?_
  refine mj_aload_n (i := 0) (q := 898) dL_law_897 rfl rfl rfl ?_
  refine mj_iload (i := 4) (q := 900) dL_law_898 rfl rfl ?_
  refine mj_num1 (v := 1) (q := 901) rfl dL_law_900 rfl ?_
  refine mj_iadd (q := 902) dL_law_901 rfl ?_
  refine mj_sldv (L := 7) (k := 1) (q := 903) dL_law_902 rfl k0 (by unfold vp_in; decide) (by decide) w1 ?_
  refine mj_aload_n (i := 3) (q := 904) dL_law_903 rfl rfl rfl ?_
  refine mj_kH3i (K := m_L_test) (q := 907) (mc1 := 1) (ms1 := 6) (mc := 59) (ms := 394) dL_law_904 ln_L_134 ok_L_test (Nat.le_of_ble_eq_true rfl) (by decide) rfl rfl rfl (l_test k1 g1 k2 f2 k149) (fun r_904 h1 hq => ?_)
  obtain ⟨rfl, rfl⟩ := hq
  refine mj_istore (i := 5) (q := 909) dL_law_907 rfl (by decide) rfl ?_
  dsimp only [List.set]
  refine mj_aload_n (i := 2) (q := 910) dL_law_909 rfl rfl rfl ?_
  refine mj_aload_n (i := 0) (q := 911) dL_law_910 rfl rfl rfl ?_
  refine mj_iload (i := 4) (q := 913) dL_law_911 rfl rfl ?_
  refine mj_num1 (v := 1) (q := 914) rfl dL_law_913 rfl ?_
  refine mj_iadd (q := 915) dL_law_914 rfl ?_
  refine mj_sldv (L := 7) (k := 1) (q := 916) dL_law_915 rfl k0 (by unfold vp_in; decide) (by decide) w1 ?_
  refine mj_kV1i (K := m_X7_test) (q := 919) (mc1 := 0) (ms1 := 0) (mc := 59) (ms := 394) dL_law_916 ln_L_136 ok_X7_test (Nat.le_of_ble_eq_true rfl) (by decide) (mj_rc2 (x := 0) (ci := 9) (by first | assumption | simp [mj_up, mj_upl, mj_row, *]) rfl) rfl rfl rfl (r_test kX gX kY gL gR kL kR fL fR) (fun r_916 h1 hq => ?_)
  obtain ⟨rfl, n2, K2, f8, g8, rfl, q1, q2, q3, q4, q5⟩ := hq
  refine mj_istore (i := 6) (q := 921) dL_law_919 rfl (by decide) rfl ?_
  dsimp only [List.set]
  refine mj_aload_n (i := 2) (q := 922) dL_law_921 rfl rfl rfl ?_
  refine mj_kV0i (K := m_X7_thrown) (q := 925) (mc1 := 0) (ms1 := 0) (mc := 59) (ms := 394) dL_law_922 ln_L_99 ok_X7_thrown (Nat.le_of_ble_eq_true rfl) (by decide) (mj_rc2 (x := 0) (ci := 9) (by first | assumption | simp [mj_up, mj_upl, mj_row, *]) rfl) rfl rfl rfl (s_thrown q1) (fun r_922 h1 hq => ?_)
  obtain ⟨rfl, rfl⟩ := hq
  rw [q2]
  refine mj_iload (i := 5) (q := 927) dL_law_925 rfl rfl ?_
  refine mj_icmp_eq (tgt := 932) (q := 930) dL_law_927 (by decide) rfl (fun c_927 => ?_) (fun c_927 => absurd rfl c_927)
  refine mj_iload (i := 5) (q := 934) dL_law_932 rfl rfl ?_
  refine mj_if_ne (tgt := 949) (q := 937) dL_law_934 (by decide) rfl (fun c_934 => ?_) (fun c_934 => absurd c_934 (by decide))
  refine mj_goto (q := 1811) dL_law_949 (by decide) ?_
  exact c_end (q5.trans k0)
set_option maxHeartbeats 100000 in
set_option maxRecDepth 100000 in
theorem c_sweep {v1 : Int32} {K : Nat → mj_K} {f : Nat → Nat → Int32} {g : Nat → Nat → Option Nat} (hF : lw_F K f g) (k0 : K 0 = (3, 7, 0)) (w1 : f 0 1 = v1) : mj_W m_law 13 60 400 lw_QL 952 [.ref 0, .ref 2, .ref 145, .ref 149, .int 0, .null, .null, .null, .null] [] (150, K, f, g) := by
  obtain ⟨k1, g1, g9, k2, g2, k3, g3, k4, f2, k9, kX, gX, fX2, fX4, kY, gL, gR, fY, kL, fL, gL1, kR, fR, k149⟩ := hF
  refine mj_aload_n (i := 1) (q := 953) dL_law_952 rfl rfl rfl ?_
  refine mj_aload_n (i := 0) (q := 954) dL_law_953 rfl rfl rfl ?_
  refine mj_iload (i := 4) (q := 956) dL_law_954 rfl rfl ?_
  refine mj_num1 (v := 1) (q := 957) rfl dL_law_956 rfl ?_
  refine mj_iadd (q := 958) dL_law_957 rfl ?_
  refine mj_sldv (L := 7) (k := 1) (q := 959) dL_law_958 rfl k0 (by unfold vp_in; decide) (by decide) w1 ?_
  refine mj_aload_n (i := 3) (q := 960) dL_law_959 rfl rfl rfl ?_
  refine mj_kH3i (K := m_L_sweep) (q := 963) (mc1 := 1) (ms1 := 6) (mc := 59) (ms := 394) dL_law_960 ln_L_137 ok_L_sweep (Nat.le_of_ble_eq_true rfl) (by decide) rfl rfl rfl (l_sweep k1 g1 k2 f2 k149) (fun r_960 h1 hq => ?_)
  obtain ⟨rfl, rfl⟩ := hq
  refine mj_istore (i := 5) (q := 965) dL_law_963 rfl (by decide) rfl ?_
  dsimp only [List.set]
  refine mj_aload_n (i := 2) (q := 966) dL_law_965 rfl rfl rfl ?_
  refine mj_aload_n (i := 0) (q := 967) dL_law_966 rfl rfl rfl ?_
  refine mj_iload (i := 4) (q := 969) dL_law_967 rfl rfl ?_
  refine mj_num1 (v := 1) (q := 970) rfl dL_law_969 rfl ?_
  refine mj_iadd (q := 971) dL_law_970 rfl ?_
  refine mj_sldv (L := 7) (k := 1) (q := 972) dL_law_971 rfl k0 (by unfold vp_in; decide) (by decide) w1 ?_
  refine mj_kV1i (K := m_X7_sweep) (q := 975) (mc1 := 0) (ms1 := 0) (mc := 59) (ms := 394) dL_law_972 ln_L_139 ok_X7_sweep (Nat.le_of_ble_eq_true rfl) (by decide) (mj_rc2 (x := 0) (ci := 9) (by first | assumption | simp [mj_up, mj_upl, mj_row, *]) rfl) rfl rfl rfl (r_sweep kX gX kY gL gR kL kR fL fR) (fun r_972 h1 hq => ?_)
  obtain ⟨rfl, n2, K2, f8, g8, rfl, q1, q2, q3, q4, q5⟩ := hq
  refine mj_istore (i := 6) (q := 977) dL_law_975 rfl (by decide) rfl ?_
  dsimp only [List.set]
  refine mj_aload_n (i := 2) (q := 978) dL_law_977 rfl rfl rfl ?_
  refine mj_kV0i (K := m_X7_thrown) (q := 981) (mc1 := 0) (ms1 := 0) (mc := 59) (ms := 394) dL_law_978 ln_L_99 ok_X7_thrown (Nat.le_of_ble_eq_true rfl) (by decide) (mj_rc2 (x := 0) (ci := 9) (by first | assumption | simp [mj_up, mj_upl, mj_row, *]) rfl) rfl rfl rfl (s_thrown q1) (fun r_978 h1 hq => ?_)
  obtain ⟨rfl, rfl⟩ := hq
  rw [q2]
  refine mj_iload (i := 5) (q := 983) dL_law_981 rfl rfl ?_
  refine mj_icmp_eq (tgt := 988) (q := 986) dL_law_983 (by decide) rfl (fun c_983 => ?_) (fun c_983 => absurd rfl c_983)
  refine mj_iload (i := 5) (q := 990) dL_law_988 rfl rfl ?_
  refine mj_if_ne (tgt := 1012) (q := 993) dL_law_990 (by decide) rfl (fun c_990 => ?_) (fun c_990 => absurd c_990 (by decide))
  refine mj_goto (q := 1811) dL_law_1012 (by decide) ?_
  exact c_end (q5.trans k0)
set_option maxHeartbeats 100000 in
set_option maxRecDepth 100000 in
theorem c_winch {v1 v2 : Int32} {K : Nat → mj_K} {f : Nat → Nat → Int32} {g : Nat → Nat → Option Nat} (hF : lw_F K f g) (k0 : K 0 = (3, 7, 0)) (w1 : f 0 1 = v1) (w2 : f 0 2 = v2) : mj_W m_law 13 60 400 lw_QL 1015 [.ref 0, .ref 2, .ref 145, .ref 149, .int 0, .null, .null, .null, .null] [] (150, K, f, g) := by
  obtain ⟨k1, g1, g9, k2, g2, k3, g3, k4, f2, k9, kX, gX, fX2, fX4, kY, gL, gR, fY, kL, fL, gL1, kR, fR, k149⟩ := hF
  refine mj_aload_n (i := 1) (q := 1016) dL_law_1015 rfl rfl rfl ?_
  refine mj_aload_n (i := 0) (q := 1017) dL_law_1016 rfl rfl rfl ?_
  refine mj_iload (i := 4) (q := 1019) dL_law_1017 rfl rfl ?_
  refine mj_num1 (v := 1) (q := 1020) rfl dL_law_1019 rfl ?_
  refine mj_iadd (q := 1021) dL_law_1020 rfl ?_
  refine mj_sldv (L := 7) (k := 1) (q := 1022) dL_law_1021 rfl k0 (by unfold vp_in; decide) (by decide) w1 ?_
  refine mj_aload_n (i := 0) (q := 1023) dL_law_1022 rfl rfl rfl ?_
  refine mj_iload (i := 4) (q := 1025) dL_law_1023 rfl rfl ?_
  refine mj_num1 (v := 2) (q := 1026) rfl dL_law_1025 rfl ?_
  refine mj_iadd (q := 1027) dL_law_1026 rfl ?_
  refine mj_sldv (L := 7) (k := 2) (q := 1028) dL_law_1027 rfl k0 (by unfold vp_in; decide) (by decide) w2 ?_
  refine mj_if_eq (tgt := 1035) (q := 1031) dL_law_1028 (by decide) rfl (fun c_1028 => ?_) (fun c_1028 => ?_)
  · refine mj_num1 (v := 0) (q := 1036) rfl dL_law_1035 rfl ?_
    refine mj_aload_n (i := 3) (q := 1037) dL_law_1036 rfl rfl rfl ?_
    refine mj_kH4i (K := m_L_winch) (q := 1040) (mc1 := 1) (ms1 := 6) (mc := 59) (ms := 394) dL_law_1037 ln_L_140 ok_L_winch (Nat.le_of_ble_eq_true rfl) (by decide) rfl rfl rfl (l_winch k1 g1 k2 f2 k149) (fun r_1037 h1 hq => ?_)
    obtain ⟨rfl, rfl⟩ := hq
    refine mj_istore (i := 5) (q := 1042) dL_law_1040 rfl (by decide) rfl ?_
    dsimp only [List.set]
    refine mj_aload_n (i := 2) (q := 1043) dL_law_1042 rfl rfl rfl ?_
    refine mj_aload_n (i := 0) (q := 1044) dL_law_1043 rfl rfl rfl ?_
    refine mj_iload (i := 4) (q := 1046) dL_law_1044 rfl rfl ?_
    refine mj_num1 (v := 1) (q := 1047) rfl dL_law_1046 rfl ?_
    refine mj_iadd (q := 1048) dL_law_1047 rfl ?_
    refine mj_sldv (L := 7) (k := 1) (q := 1049) dL_law_1048 rfl k0 (by unfold vp_in; decide) (by decide) w1 ?_
    refine mj_aload_n (i := 0) (q := 1050) dL_law_1049 rfl rfl rfl ?_
    refine mj_iload (i := 4) (q := 1052) dL_law_1050 rfl rfl ?_
    refine mj_num1 (v := 2) (q := 1053) rfl dL_law_1052 rfl ?_
    refine mj_iadd (q := 1054) dL_law_1053 rfl ?_
    refine mj_sldv (L := 7) (k := 2) (q := 1055) dL_law_1054 rfl k0 (by unfold vp_in; decide) (by decide) w2 ?_
    refine mj_if_eq (tgt := 1062) (q := 1058) dL_law_1055 (by decide) rfl (fun c_1055 => ?_) (fun c_1055 => ?_)
    · refine mj_num1 (v := 0) (q := 1063) rfl dL_law_1062 rfl ?_
      refine mj_kV2i (K := m_X7_winch) (q := 1066) (mc1 := 0) (ms1 := 0) (mc := 59) (ms := 394) dL_law_1063 ln_L_142 ok_X7_winch (Nat.le_of_ble_eq_true rfl) (by decide) (mj_rc2 (x := 0) (ci := 9) (by first | assumption | simp [mj_up, mj_upl, mj_row, *]) rfl) rfl rfl rfl (r_winch kX gX kY gL gR kL kR fL fR) (fun r_1063 h1 hq => ?_)
      obtain ⟨rfl, n2, K2, f8, g8, rfl, q1, q2, q3, q4, q5⟩ := hq
      refine mj_istore (i := 6) (q := 1068) dL_law_1066 rfl (by decide) rfl ?_
      dsimp only [List.set]
      refine mj_aload_n (i := 2) (q := 1069) dL_law_1068 rfl rfl rfl ?_
      refine mj_kV0i (K := m_X7_thrown) (q := 1072) (mc1 := 0) (ms1 := 0) (mc := 59) (ms := 394) dL_law_1069 ln_L_99 ok_X7_thrown (Nat.le_of_ble_eq_true rfl) (by decide) (mj_rc2 (x := 0) (ci := 9) (by first | assumption | simp [mj_up, mj_upl, mj_row, *]) rfl) rfl rfl rfl (s_thrown q1) (fun r_1069 h1 hq => ?_)
      obtain ⟨rfl, rfl⟩ := hq
      rw [q2]
      refine mj_iload (i := 5) (q := 1074) dL_law_1072 rfl rfl ?_
      refine mj_icmp_eq (tgt := 1079) (q := 1077) dL_law_1074 (by decide) rfl (fun c_1074 => ?_) (fun c_1074 => absurd rfl c_1074)
      refine mj_iload (i := 5) (q := 1081) dL_law_1079 rfl rfl ?_
      refine mj_if_ne (tgt := 1103) (q := 1084) dL_law_1081 (by decide) rfl (fun c_1081 => ?_) (fun c_1081 => absurd c_1081 (by decide))
      refine mj_goto (q := 1811) dL_law_1103 (by decide) ?_
      exact c_end (q5.trans k0)
    · refine mj_num1 (v := 1) (q := 1059) rfl dL_law_1058 rfl ?_
      refine mj_goto (q := 1063) dL_law_1059 (by decide) ?_
      refine mj_kV2i (K := m_X7_winch) (q := 1066) (mc1 := 0) (ms1 := 0) (mc := 59) (ms := 394) dL_law_1063 ln_L_142 ok_X7_winch (Nat.le_of_ble_eq_true rfl) (by decide) (mj_rc2 (x := 0) (ci := 9) (by first | assumption | simp [mj_up, mj_upl, mj_row, *]) rfl) rfl rfl rfl (r_winch kX gX kY gL gR kL kR fL fR) (fun r_1063 h1 hq => ?_)
      obtain ⟨rfl, n2, K2, f8, g8, rfl, q1, q2, q3, q4, q5⟩ := hq
      refine mj_istore (i := 6) (q := 1068) dL_law_1066 rfl (by decide) rfl ?_
      dsimp only [List.set]
      refine mj_aload_n (i := 2) (q := 1069) dL_law_1068 rfl rfl rfl ?_
      refine mj_kV0i (K := m_X7_thrown) (q := 1072) (mc1 := 0) (ms1 := 0) (mc := 59) (ms := 394) dL_law_1069 ln_L_99 ok_X7_thrown (Nat.le_of_ble_eq_true rfl) (by decide) (mj_rc2 (x := 0) (ci := 9) (by first | assumption | simp [mj_up, mj_upl, mj_row, *]) rfl) rfl rfl rfl (s_thrown q1) (fun r_1069 h1 hq => ?_)
      obtain ⟨rfl, rfl⟩ := hq
      rw [q2]
      refine mj_iload (i := 5) (q := 1074) dL_law_1072 rfl rfl ?_
      refine mj_icmp_eq (tgt := 1079) (q := 1077) dL_law_1074 (by decide) rfl (fun c_1074 => ?_) (fun c_1074 => absurd rfl c_1074)
      refine mj_iload (i := 5) (q := 1081) dL_law_1079 rfl rfl ?_
      refine mj_if_ne (tgt := 1103) (q := 1084) dL_law_1081 (by decide) rfl (fun c_1081 => ?_) (fun c_1081 => absurd c_1081 (by decide))
      refine mj_goto (q := 1811) dL_law_1103 (by decide) ?_
      exact c_end (q5.trans k0)
  · refine mj_num1 (v := 1) (q := 1032) rfl dL_law_1031 rfl ?_
    refine mj_goto (q := 1036) dL_law_1032 (by decide) ?_
    refine mj_aload_n (i := 3) (q := 1037) dL_law_1036 rfl rfl rfl ?_
    refine mj_kH4i (K := m_L_winch) (q := 1040) (mc1 := 1) (ms1 := 6) (mc := 59) (ms := 394) dL_law_1037 ln_L_140 ok_L_winch (Nat.le_of_ble_eq_true rfl) (by decide) rfl rfl rfl (l_winch k1 g1 k2 f2 k149) (fun r_1037 h1 hq => ?_)
    obtain ⟨rfl, rfl⟩ := hq
    refine mj_istore (i := 5) (q := 1042) dL_law_1040 rfl (by decide) rfl ?_
    dsimp only [List.set]
    refine mj_aload_n (i := 2) (q := 1043) dL_law_1042 rfl rfl rfl ?_
    refine mj_aload_n (i := 0) (q := 1044) dL_law_1043 rfl rfl rfl ?_
    refine mj_iload (i := 4) (q := 1046) dL_law_1044 rfl rfl ?_
    refine mj_num1 (v := 1) (q := 1047) rfl dL_law_1046 rfl ?_
    refine mj_iadd (q := 1048) dL_law_1047 rfl ?_
    refine mj_sldv (L := 7) (k := 1) (q := 1049) dL_law_1048 rfl k0 (by unfold vp_in; decide) (by decide) w1 ?_
    refine mj_aload_n (i := 0) (q := 1050) dL_law_1049 rfl rfl rfl ?_
    refine mj_iload (i := 4) (q := 1052) dL_law_1050 rfl rfl ?_
    refine mj_num1 (v := 2) (q := 1053) rfl dL_law_1052 rfl ?_
    refine mj_iadd (q := 1054) dL_law_1053 rfl ?_
    refine mj_sldv (L := 7) (k := 2) (q := 1055) dL_law_1054 rfl k0 (by unfold vp_in; decide) (by decide) w2 ?_
    refine mj_if_eq (tgt := 1062) (q := 1058) dL_law_1055 (by decide) rfl (fun c_1055 => ?_) (fun c_1055 => ?_)
    · refine mj_num1 (v := 0) (q := 1063) rfl dL_law_1062 rfl ?_
      refine mj_kV2i (K := m_X7_winch) (q := 1066) (mc1 := 0) (ms1 := 0) (mc := 59) (ms := 394) dL_law_1063 ln_L_142 ok_X7_winch (Nat.le_of_ble_eq_true rfl) (by decide) (mj_rc2 (x := 0) (ci := 9) (by first | assumption | simp [mj_up, mj_upl, mj_row, *]) rfl) rfl rfl rfl (r_winch kX gX kY gL gR kL kR fL fR) (fun r_1063 h1 hq => ?_)
      obtain ⟨rfl, n2, K2, f8, g8, rfl, q1, q2, q3, q4, q5⟩ := hq
      refine mj_istore (i := 6) (q := 1068) dL_law_1066 rfl (by decide) rfl ?_
      dsimp only [List.set]
      refine mj_aload_n (i := 2) (q := 1069) dL_law_1068 rfl rfl rfl ?_
      refine mj_kV0i (K := m_X7_thrown) (q := 1072) (mc1 := 0) (ms1 := 0) (mc := 59) (ms := 394) dL_law_1069 ln_L_99 ok_X7_thrown (Nat.le_of_ble_eq_true rfl) (by decide) (mj_rc2 (x := 0) (ci := 9) (by first | assumption | simp [mj_up, mj_upl, mj_row, *]) rfl) rfl rfl rfl (s_thrown q1) (fun r_1069 h1 hq => ?_)
      obtain ⟨rfl, rfl⟩ := hq
      rw [q2]
      refine mj_iload (i := 5) (q := 1074) dL_law_1072 rfl rfl ?_
      refine mj_icmp_eq (tgt := 1079) (q := 1077) dL_law_1074 (by decide) rfl (fun c_1074 => ?_) (fun c_1074 => absurd rfl c_1074)
      refine mj_iload (i := 5) (q := 1081) dL_law_1079 rfl rfl ?_
      refine mj_if_ne (tgt := 1103) (q := 1084) dL_law_1081 (by decide) rfl (fun c_1081 => ?_) (fun c_1081 => absurd c_1081 (by decide))
      refine mj_goto (q := 1811) dL_law_1103 (by decide) ?_
      exact c_end (q5.trans k0)
    · refine mj_num1 (v := 1) (q := 1059) rfl dL_law_1058 rfl ?_
      refine mj_goto (q := 1063) dL_law_1059 (by decide) ?_
      refine mj_kV2i (K := m_X7_winch) (q := 1066) (mc1 := 0) (ms1 := 0) (mc := 59) (ms := 394) dL_law_1063 ln_L_142 ok_X7_winch (Nat.le_of_ble_eq_true rfl) (by decide) (mj_rc2 (x := 0) (ci := 9) (by first | assumption | simp [mj_up, mj_upl, mj_row, *]) rfl) rfl rfl rfl (r_winch kX gX kY gL gR kL kR fL fR) (fun r_1063 h1 hq => ?_)
      obtain ⟨rfl, n2, K2, f8, g8, rfl, q1, q2, q3, q4, q5⟩ := hq
      refine mj_istore (i := 6) (q := 1068) dL_law_1066 rfl (by decide) rfl ?_
      dsimp only [List.set]
      refine mj_aload_n (i := 2) (q := 1069) dL_law_1068 rfl rfl rfl ?_
      refine mj_kV0i (K := m_X7_thrown) (q := 1072) (mc1 := 0) (ms1 := 0) (mc := 59) (ms := 394) dL_law_1069 ln_L_99 ok_X7_thrown (Nat.le_of_ble_eq_true rfl) (by decide) (mj_rc2 (x := 0) (ci := 9) (by first | assumption | simp [mj_up, mj_upl, mj_row, *]) rfl) rfl rfl rfl (s_thrown q1) (fun r_1069 h1 hq => ?_)
      obtain ⟨rfl, rfl⟩ := hq
      rw [q2]
      refine mj_iload (i := 5) (q := 1074) dL_law_1072 rfl rfl ?_
      refine mj_icmp_eq (tgt := 1079) (q := 1077) dL_law_1074 (by decide) rfl (fun c_1074 => ?_) (fun c_1074 => absurd rfl c_1074)
      refine mj_iload (i := 5) (q := 1081) dL_law_1079 rfl rfl ?_
      refine mj_if_ne (tgt := 1103) (q := 1084) dL_law_1081 (by decide) rfl (fun c_1081 => ?_) (fun c_1081 => absurd c_1081 (by decide))
      refine mj_goto (q := 1811) dL_law_1103 (by decide) ?_
      exact c_end (q5.trans k0)
set_option maxHeartbeats 100000 in
set_option maxRecDepth 100000 in
theorem c_groom {v1 : Int32} {K : Nat → mj_K} {f : Nat → Nat → Int32} {g : Nat → Nat → Option Nat} (hF : lw_F K f g) (k0 : K 0 = (3, 7, 0)) (w1 : f 0 1 = v1) : mj_W m_law 13 60 400 lw_QL 1106 [.ref 0, .ref 2, .ref 145, .ref 149, .int 0, .null, .null, .null, .null] [] (150, K, f, g) := by
  obtain ⟨k1, g1, g9, k2, g2, k3, g3, k4, f2, k9, kX, gX, fX2, fX4, kY, gL, gR, fY, kL, fL, gL1, kR, fR, k149⟩ := hF
  refine mj_aload_n (i := 1) (q := 1107) dL_law_1106 rfl rfl rfl ?_
  refine mj_aload_n (i := 0) (q := 1108) dL_law_1107 rfl rfl rfl ?_
  refine mj_iload (i := 4) (q := 1110) dL_law_1108 rfl rfl ?_
  refine mj_num1 (v := 1) (q := 1111) rfl dL_law_1110 rfl ?_
  refine mj_iadd (q := 1112) dL_law_1111 rfl ?_
  refine mj_sldv (L := 7) (k := 1) (q := 1113) dL_law_1112 rfl k0 (by unfold vp_in; decide) (by decide) w1 ?_
  refine mj_aload_n (i := 3) (q := 1114) dL_law_1113 rfl rfl rfl ?_
  refine mj_kH3i (K := m_L_groom) (q := 1117) (mc1 := 1) (ms1 := 6) (mc := 59) (ms := 394) dL_law_1114 ln_L_143 ok_L_groom (Nat.le_of_ble_eq_true rfl) (by decide) rfl rfl rfl (l_groom k1 g1 k2 f2 k149) (fun r_1114 h1 hq => ?_)
  obtain ⟨rfl, rfl⟩ := hq
  refine mj_istore (i := 5) (q := 1119) dL_law_1117 rfl (by decide) rfl ?_
  dsimp only [List.set]
  refine mj_aload_n (i := 2) (q := 1120) dL_law_1119 rfl rfl rfl ?_
  refine mj_aload_n (i := 0) (q := 1121) dL_law_1120 rfl rfl rfl ?_
  refine mj_iload (i := 4) (q := 1123) dL_law_1121 rfl rfl ?_
  refine mj_num1 (v := 1) (q := 1124) rfl dL_law_1123 rfl ?_
  refine mj_iadd (q := 1125) dL_law_1124 rfl ?_
  refine mj_sldv (L := 7) (k := 1) (q := 1126) dL_law_1125 rfl k0 (by unfold vp_in; decide) (by decide) w1 ?_
  refine mj_kV1i (K := m_X7_groom) (q := 1129) (mc1 := 0) (ms1 := 0) (mc := 59) (ms := 394) dL_law_1126 ln_L_145 ok_X7_groom (Nat.le_of_ble_eq_true rfl) (by decide) (mj_rc2 (x := 0) (ci := 9) (by first | assumption | simp [mj_up, mj_upl, mj_row, *]) rfl) rfl rfl rfl (r_groom kX gX kY gL gR kL kR fL fR) (fun r_1126 h1 hq => ?_)
  obtain ⟨rfl, n2, K2, f8, g8, rfl, q1, q2, q3, q4, q5⟩ := hq
  refine mj_istore (i := 6) (q := 1131) dL_law_1129 rfl (by decide) rfl ?_
  dsimp only [List.set]
  refine mj_aload_n (i := 2) (q := 1132) dL_law_1131 rfl rfl rfl ?_
  refine mj_kV0i (K := m_X7_thrown) (q := 1135) (mc1 := 0) (ms1 := 0) (mc := 59) (ms := 394) dL_law_1132 ln_L_99 ok_X7_thrown (Nat.le_of_ble_eq_true rfl) (by decide) (mj_rc2 (x := 0) (ci := 9) (by first | assumption | simp [mj_up, mj_upl, mj_row, *]) rfl) rfl rfl rfl (s_thrown q1) (fun r_1132 h1 hq => ?_)
  obtain ⟨rfl, rfl⟩ := hq
  rw [q2]
  refine mj_iload (i := 5) (q := 1137) dL_law_1135 rfl rfl ?_
  refine mj_icmp_eq (tgt := 1142) (q := 1140) dL_law_1137 (by decide) rfl (fun c_1137 => ?_) (fun c_1137 => absurd rfl c_1137)
  refine mj_iload (i := 5) (q := 1144) dL_law_1142 rfl rfl ?_
  refine mj_if_ne (tgt := 1159) (q := 1147) dL_law_1144 (by decide) rfl (fun c_1144 => ?_) (fun c_1144 => absurd c_1144 (by decide))
  refine mj_goto (q := 1811) dL_law_1159 (by decide) ?_
  exact c_end (q5.trans k0)
set_option maxHeartbeats 100000 in
set_option maxRecDepth 100000 in
theorem c_open {v1 : Int32} {K : Nat → mj_K} {f : Nat → Nat → Int32} {g : Nat → Nat → Option Nat} (hF : lw_F K f g) (k0 : K 0 = (3, 7, 0)) (w1 : f 0 1 = v1) : mj_W m_law 13 60 400 lw_QL 1162 [.ref 0, .ref 2, .ref 145, .ref 149, .int 0, .null, .null, .null, .null] [] (150, K, f, g) := by
  obtain ⟨k1, g1, g9, k2, g2, k3, g3, k4, f2, k9, kX, gX, fX2, fX4, kY, gL, gR, fY, kL, fL, gL1, kR, fR, k149⟩ := hF
  refine mj_aload_n (i := 1) (q := 1163) dL_law_1162 rfl rfl rfl ?_
  refine mj_aload_n (i := 0) (q := 1164) dL_law_1163 rfl rfl rfl ?_
  refine mj_iload (i := 4) (q := 1166) dL_law_1164 rfl rfl ?_
  refine mj_num1 (v := 1) (q := 1167) rfl dL_law_1166 rfl ?_
  refine mj_iadd (q := 1168) dL_law_1167 rfl ?_
  refine mj_sldv (L := 7) (k := 1) (q := 1169) dL_law_1168 rfl k0 (by unfold vp_in; decide) (by decide) w1 ?_
  refine mj_aload_n (i := 3) (q := 1170) dL_law_1169 rfl rfl rfl ?_
  refine mj_kH3i (K := m_L_open) (q := 1173) (mc1 := 1) (ms1 := 6) (mc := 59) (ms := 394) dL_law_1170 ln_L_146 ok_L_open (Nat.le_of_ble_eq_true rfl) (by decide) rfl rfl rfl (l_open k1 g1 k2 f2 k149) (fun r_1170 h1 hq => ?_)
  obtain ⟨rfl, rfl⟩ := hq
  refine mj_istore (i := 5) (q := 1175) dL_law_1173 rfl (by decide) rfl ?_
  dsimp only [List.set]
  refine mj_aload_n (i := 2) (q := 1176) dL_law_1175 rfl rfl rfl ?_
  refine mj_aload_n (i := 0) (q := 1177) dL_law_1176 rfl rfl rfl ?_
  refine mj_iload (i := 4) (q := 1179) dL_law_1177 rfl rfl ?_
  refine mj_num1 (v := 1) (q := 1180) rfl dL_law_1179 rfl ?_
  refine mj_iadd (q := 1181) dL_law_1180 rfl ?_
  refine mj_sldv (L := 7) (k := 1) (q := 1182) dL_law_1181 rfl k0 (by unfold vp_in; decide) (by decide) w1 ?_
  refine mj_kV1i (K := m_X7_open) (q := 1185) (mc1 := 0) (ms1 := 0) (mc := 59) (ms := 394) dL_law_1182 ln_L_148 ok_X7_open (Nat.le_of_ble_eq_true rfl) (by decide) (mj_rc2 (x := 0) (ci := 9) (by first | assumption | simp [mj_up, mj_upl, mj_row, *]) rfl) rfl rfl rfl (r_open kX gX kY gL gR kL kR fL fR) (fun r_1182 h1 hq => ?_)
  obtain ⟨rfl, n2, K2, f8, g8, rfl, q1, q2, q3, q4, q5⟩ := hq
  refine mj_istore (i := 6) (q := 1187) dL_law_1185 rfl (by decide) rfl ?_
  dsimp only [List.set]
  refine mj_aload_n (i := 2) (q := 1188) dL_law_1187 rfl rfl rfl ?_
  refine mj_kV0i (K := m_X7_thrown) (q := 1191) (mc1 := 0) (ms1 := 0) (mc := 59) (ms := 394) dL_law_1188 ln_L_99 ok_X7_thrown (Nat.le_of_ble_eq_true rfl) (by decide) (mj_rc2 (x := 0) (ci := 9) (by first | assumption | simp [mj_up, mj_upl, mj_row, *]) rfl) rfl rfl rfl (s_thrown q1) (fun r_1188 h1 hq => ?_)
  obtain ⟨rfl, rfl⟩ := hq
  rw [q2]
  refine mj_iload (i := 5) (q := 1193) dL_law_1191 rfl rfl ?_
  refine mj_icmp_eq (tgt := 1198) (q := 1196) dL_law_1193 (by decide) rfl (fun c_1193 => ?_) (fun c_1193 => absurd rfl c_1193)
  refine mj_iload (i := 5) (q := 1200) dL_law_1198 rfl rfl ?_
  refine mj_if_ne (tgt := 1215) (q := 1203) dL_law_1200 (by decide) rfl (fun c_1200 => ?_) (fun c_1200 => absurd c_1200 (by decide))
  refine mj_goto (q := 1811) dL_law_1215 (by decide) ?_
  exact c_end (q5.trans k0)
set_option maxHeartbeats 100000 in
set_option maxRecDepth 100000 in
theorem c_close {v1 : Int32} {K : Nat → mj_K} {f : Nat → Nat → Int32} {g : Nat → Nat → Option Nat} (hF : lw_F K f g) (k0 : K 0 = (3, 7, 0)) (w1 : f 0 1 = v1) : mj_W m_law 13 60 400 lw_QL 1218 [.ref 0, .ref 2, .ref 145, .ref 149, .int 0, .null, .null, .null, .null] [] (150, K, f, g) := by
  obtain ⟨k1, g1, g9, k2, g2, k3, g3, k4, f2, k9, kX, gX, fX2, fX4, kY, gL, gR, fY, kL, fL, gL1, kR, fR, k149⟩ := hF
  refine mj_aload_n (i := 1) (q := 1219) dL_law_1218 rfl rfl rfl ?_
  refine mj_aload_n (i := 0) (q := 1220) dL_law_1219 rfl rfl rfl ?_
  refine mj_iload (i := 4) (q := 1222) dL_law_1220 rfl rfl ?_
  refine mj_num1 (v := 1) (q := 1223) rfl dL_law_1222 rfl ?_
  refine mj_iadd (q := 1224) dL_law_1223 rfl ?_
  refine mj_sldv (L := 7) (k := 1) (q := 1225) dL_law_1224 rfl k0 (by unfold vp_in; decide) (by decide) w1 ?_
  refine mj_aload_n (i := 3) (q := 1226) dL_law_1225 rfl rfl rfl ?_
  refine mj_kH3i (K := m_L_close) (q := 1229) (mc1 := 1) (ms1 := 6) (mc := 59) (ms := 394) dL_law_1226 ln_L_149 ok_L_close (Nat.le_of_ble_eq_true rfl) (by decide) rfl rfl rfl (l_close k1 g1 k2 f2 k149) (fun r_1226 h1 hq => ?_)
  obtain ⟨rfl, rfl⟩ := hq
  refine mj_istore (i := 5) (q := 1231) dL_law_1229 rfl (by decide) rfl ?_
  dsimp only [List.set]
  refine mj_aload_n (i := 2) (q := 1232) dL_law_1231 rfl rfl rfl ?_
  refine mj_aload_n (i := 0) (q := 1233) dL_law_1232 rfl rfl rfl ?_
  refine mj_iload (i := 4) (q := 1235) dL_law_1233 rfl rfl ?_
  refine mj_num1 (v := 1) (q := 1236) rfl dL_law_1235 rfl ?_
  refine mj_iadd (q := 1237) dL_law_1236 rfl ?_
  refine mj_sldv (L := 7) (k := 1) (q := 1238) dL_law_1237 rfl k0 (by unfold vp_in; decide) (by decide) w1 ?_
  refine mj_kV1i (K := m_X7_close) (q := 1241) (mc1 := 0) (ms1 := 0) (mc := 59) (ms := 394) dL_law_1238 ln_L_151 ok_X7_close (Nat.le_of_ble_eq_true rfl) (by decide) (mj_rc2 (x := 0) (ci := 9) (by first | assumption | simp [mj_up, mj_upl, mj_row, *]) rfl) rfl rfl rfl (r_close kX gX kY gL gR kL kR fL fR) (fun r_1238 h1 hq => ?_)
  obtain ⟨rfl, n2, K2, f8, g8, rfl, q1, q2, q3, q4, q5⟩ := hq
  refine mj_istore (i := 6) (q := 1243) dL_law_1241 rfl (by decide) rfl ?_
  dsimp only [List.set]
  refine mj_aload_n (i := 2) (q := 1244) dL_law_1243 rfl rfl rfl ?_
  refine mj_kV0i (K := m_X7_thrown) (q := 1247) (mc1 := 0) (ms1 := 0) (mc := 59) (ms := 394) dL_law_1244 ln_L_99 ok_X7_thrown (Nat.le_of_ble_eq_true rfl) (by decide) (mj_rc2 (x := 0) (ci := 9) (by first | assumption | simp [mj_up, mj_upl, mj_row, *]) rfl) rfl rfl rfl (s_thrown q1) (fun r_1244 h1 hq => ?_)
  obtain ⟨rfl, rfl⟩ := hq
  rw [q2]
  refine mj_iload (i := 5) (q := 1249) dL_law_1247 rfl rfl ?_
  refine mj_icmp_eq (tgt := 1254) (q := 1252) dL_law_1249 (by decide) rfl (fun c_1249 => ?_) (fun c_1249 => absurd rfl c_1249)
  refine mj_iload (i := 5) (q := 1256) dL_law_1254 rfl rfl ?_
  refine mj_if_ne (tgt := 1271) (q := 1259) dL_law_1256 (by decide) rfl (fun c_1256 => ?_) (fun c_1256 => absurd c_1256 (by decide))
  refine mj_goto (q := 1811) dL_law_1271 (by decide) ?_
  exact c_end (q5.trans k0)
set_option maxHeartbeats 100000 in
set_option maxRecDepth 100000 in
theorem c_ofRun {v1 v2 : Int32} {K : Nat → mj_K} {f : Nat → Nat → Int32} {g : Nat → Nat → Option Nat} (hF : lw_F K f g) (k0 : K 0 = (3, 7, 0)) (w1 : f 0 1 = v1) (w2 : f 0 2 = v2) : mj_W m_law 13 60 400 lw_QL 1274 [.ref 0, .ref 2, .ref 145, .ref 149, .int 0, .null, .null, .null, .null] [] (150, K, f, g) := by
  obtain ⟨k1, g1, g9, k2, g2, k3, g3, k4, f2, k9, kX, gX, fX2, fX4, kY, gL, gR, fY, kL, fL, gL1, kR, fR, k149⟩ := hF
  refine mj_aload_n (i := 1) (q := 1275) dL_law_1274 rfl rfl rfl ?_
  refine mj_aload_n (i := 0) (q := 1276) dL_law_1275 rfl rfl rfl ?_
  refine mj_iload (i := 4) (q := 1278) dL_law_1276 rfl rfl ?_
  refine mj_num1 (v := 1) (q := 1279) rfl dL_law_1278 rfl ?_
  refine mj_iadd (q := 1280) dL_law_1279 rfl ?_
  refine mj_sldv (L := 7) (k := 1) (q := 1281) dL_law_1280 rfl k0 (by unfold vp_in; decide) (by decide) w1 ?_
  refine mj_aload_n (i := 0) (q := 1282) dL_law_1281 rfl rfl rfl ?_
  refine mj_iload (i := 4) (q := 1284) dL_law_1282 rfl rfl ?_
  refine mj_num1 (v := 2) (q := 1285) rfl dL_law_1284 rfl ?_
  refine mj_iadd (q := 1286) dL_law_1285 rfl ?_
  refine mj_sldv (L := 7) (k := 2) (q := 1287) dL_law_1286 rfl k0 (by unfold vp_in; decide) (by decide) w2 ?_
  refine mj_aload_n (i := 3) (q := 1288) dL_law_1287 rfl rfl rfl ?_
  refine mj_kH4i (K := m_L_ofRun) (q := 1291) (mc1 := 1) (ms1 := 6) (mc := 59) (ms := 394) dL_law_1288 ln_L_152 ok_L_ofRun (Nat.le_of_ble_eq_true rfl) (by decide) rfl rfl rfl (l_ofRun k1 g1 k2 f2 k149) (fun r_1288 h1 hq => ?_)
  obtain ⟨rfl, rfl⟩ := hq
  refine mj_istore (i := 5) (q := 1293) dL_law_1291 rfl (by decide) rfl ?_
  dsimp only [List.set]
  refine mj_aload_n (i := 2) (q := 1294) dL_law_1293 rfl rfl rfl ?_
  refine mj_aload_n (i := 0) (q := 1295) dL_law_1294 rfl rfl rfl ?_
  refine mj_iload (i := 4) (q := 1297) dL_law_1295 rfl rfl ?_
  refine mj_num1 (v := 1) (q := 1298) rfl dL_law_1297 rfl ?_
  refine mj_iadd (q := 1299) dL_law_1298 rfl ?_
  refine mj_sldv (L := 7) (k := 1) (q := 1300) dL_law_1299 rfl k0 (by unfold vp_in; decide) (by decide) w1 ?_
  refine mj_aload_n (i := 0) (q := 1301) dL_law_1300 rfl rfl rfl ?_
  refine mj_iload (i := 4) (q := 1303) dL_law_1301 rfl rfl ?_
  refine mj_num1 (v := 2) (q := 1304) rfl dL_law_1303 rfl ?_
  refine mj_iadd (q := 1305) dL_law_1304 rfl ?_
  refine mj_sldv (L := 7) (k := 2) (q := 1306) dL_law_1305 rfl k0 (by unfold vp_in; decide) (by decide) w2 ?_
  refine mj_kV2i (K := m_X7_ofRun) (q := 1309) (mc1 := 0) (ms1 := 0) (mc := 59) (ms := 394) dL_law_1306 ln_L_154 ok_X7_ofRun (Nat.le_of_ble_eq_true rfl) (by decide) (mj_rc2 (x := 0) (ci := 9) (by first | assumption | simp [mj_up, mj_upl, mj_row, *]) rfl) rfl rfl rfl (r_ofRun kX gX kY gL gR kL kR fL fR) (fun r_1306 h1 hq => ?_)
  obtain ⟨rfl, n2, K2, f8, g8, rfl, q1, q2, q3, q4, q5⟩ := hq
  refine mj_istore (i := 6) (q := 1311) dL_law_1309 rfl (by decide) rfl ?_
  dsimp only [List.set]
  refine mj_aload_n (i := 2) (q := 1312) dL_law_1311 rfl rfl rfl ?_
  refine mj_kV0i (K := m_X7_thrown) (q := 1315) (mc1 := 0) (ms1 := 0) (mc := 59) (ms := 394) dL_law_1312 ln_L_99 ok_X7_thrown (Nat.le_of_ble_eq_true rfl) (by decide) (mj_rc2 (x := 0) (ci := 9) (by first | assumption | simp [mj_up, mj_upl, mj_row, *]) rfl) rfl rfl rfl (s_thrown q1) (fun r_1312 h1 hq => ?_)
  obtain ⟨rfl, rfl⟩ := hq
  rw [q2]
  refine mj_iload (i := 5) (q := 1317) dL_law_1315 rfl rfl ?_
  refine mj_icmp_eq (tgt := 1322) (q := 1320) dL_law_1317 (by decide) rfl (fun c_1317 => ?_) (fun c_1317 => absurd rfl c_1317)
  refine mj_iload (i := 5) (q := 1324) dL_law_1322 rfl rfl ?_
  refine mj_if_ne (tgt := 1339) (q := 1327) dL_law_1324 (by decide) rfl (fun c_1324 => ?_) (fun c_1324 => absurd c_1324 (by decide))
  refine mj_goto (q := 1811) dL_law_1339 (by decide) ?_
  exact c_end (q5.trans k0)
set_option maxHeartbeats 100000 in
set_option maxRecDepth 100000 in
theorem c_ofLayer {v1 v2 v3 : Int32} {K : Nat → mj_K} {f : Nat → Nat → Int32} {g : Nat → Nat → Option Nat} (hF : lw_F K f g) (k0 : K 0 = (3, 7, 0)) (w1 : f 0 1 = v1) (w2 : f 0 2 = v2) (w3 : f 0 3 = v3) : mj_W m_law 13 60 400 lw_QL 1342 [.ref 0, .ref 2, .ref 145, .ref 149, .int 0, .null, .null, .null, .null] [] (150, K, f, g) := by
  obtain ⟨k1, g1, g9, k2, g2, k3, g3, k4, f2, k9, kX, gX, fX2, fX4, kY, gL, gR, fY, kL, fL, gL1, kR, fR, k149⟩ := hF
  refine mj_aload_n (i := 1) (q := 1343) dL_law_1342 rfl rfl rfl ?_
  refine mj_aload_n (i := 0) (q := 1344) dL_law_1343 rfl rfl rfl ?_
  refine mj_iload (i := 4) (q := 1346) dL_law_1344 rfl rfl ?_
  refine mj_num1 (v := 1) (q := 1347) rfl dL_law_1346 rfl ?_
  refine mj_iadd (q := 1348) dL_law_1347 rfl ?_
  refine mj_sldv (L := 7) (k := 1) (q := 1349) dL_law_1348 rfl k0 (by unfold vp_in; decide) (by decide) w1 ?_
  refine mj_aload_n (i := 0) (q := 1350) dL_law_1349 rfl rfl rfl ?_
  refine mj_iload (i := 4) (q := 1352) dL_law_1350 rfl rfl ?_
  refine mj_num1 (v := 2) (q := 1353) rfl dL_law_1352 rfl ?_
  refine mj_iadd (q := 1354) dL_law_1353 rfl ?_
  refine mj_sldv (L := 7) (k := 2) (q := 1355) dL_law_1354 rfl k0 (by unfold vp_in; decide) (by decide) w2 ?_
  refine mj_aload_n (i := 0) (q := 1356) dL_law_1355 rfl rfl rfl ?_
  refine mj_iload (i := 4) (q := 1358) dL_law_1356 rfl rfl ?_
  refine mj_num1 (v := 3) (q := 1359) rfl dL_law_1358 rfl ?_
  refine mj_iadd (q := 1360) dL_law_1359 rfl ?_
  refine mj_sldv (L := 7) (k := 3) (q := 1361) dL_law_1360 rfl k0 (by unfold vp_in; decide) (by decide) w3 ?_
  refine mj_aload_n (i := 3) (q := 1362) dL_law_1361 rfl rfl rfl ?_
  refine mj_kH5i (K := m_L_ofLayer) (q := 1365) (mc1 := 1) (ms1 := 6) (mc := 59) (ms := 394) dL_law_1362 ln_L_155 ok_L_ofLayer (Nat.le_of_ble_eq_true rfl) (by decide) rfl rfl rfl (l_ofLayer k1 g1 k2 f2 k149) (fun r_1362 h1 hq => ?_)
  obtain ⟨rfl, rfl⟩ := hq
  refine mj_istore (i := 5) (q := 1367) dL_law_1365 rfl (by decide) rfl ?_
  dsimp only [List.set]
  refine mj_aload_n (i := 2) (q := 1368) dL_law_1367 rfl rfl rfl ?_
  refine mj_aload_n (i := 0) (q := 1369) dL_law_1368 rfl rfl rfl ?_
  refine mj_iload (i := 4) (q := 1371) dL_law_1369 rfl rfl ?_
  refine mj_num1 (v := 1) (q := 1372) rfl dL_law_1371 rfl ?_
  refine mj_iadd (q := 1373) dL_law_1372 rfl ?_
  refine mj_sldv (L := 7) (k := 1) (q := 1374) dL_law_1373 rfl k0 (by unfold vp_in; decide) (by decide) w1 ?_
  refine mj_aload_n (i := 0) (q := 1375) dL_law_1374 rfl rfl rfl ?_
  refine mj_iload (i := 4) (q := 1377) dL_law_1375 rfl rfl ?_
  refine mj_num1 (v := 2) (q := 1378) rfl dL_law_1377 rfl ?_
  refine mj_iadd (q := 1379) dL_law_1378 rfl ?_
  refine mj_sldv (L := 7) (k := 2) (q := 1380) dL_law_1379 rfl k0 (by unfold vp_in; decide) (by decide) w2 ?_
  refine mj_aload_n (i := 0) (q := 1381) dL_law_1380 rfl rfl rfl ?_
  refine mj_iload (i := 4) (q := 1383) dL_law_1381 rfl rfl ?_
  refine mj_num1 (v := 3) (q := 1384) rfl dL_law_1383 rfl ?_
  refine mj_iadd (q := 1385) dL_law_1384 rfl ?_
  refine mj_sldv (L := 7) (k := 3) (q := 1386) dL_law_1385 rfl k0 (by unfold vp_in; decide) (by decide) w3 ?_
  refine mj_kV3i (K := m_X7_ofLayer) (q := 1389) (mc1 := 0) (ms1 := 0) (mc := 59) (ms := 394) dL_law_1386 ln_L_158 ok_X7_ofLayer (Nat.le_of_ble_eq_true rfl) (by decide) (mj_rc2 (x := 0) (ci := 9) (by first | assumption | simp [mj_up, mj_upl, mj_row, *]) rfl) rfl rfl rfl (r_ofLayer kX gX kY gL gR kL kR fL fR) (fun r_1386 h1 hq => ?_)
  obtain ⟨rfl, n2, K2, f8, g8, rfl, q1, q2, q3, q4, q5⟩ := hq
  refine mj_istore (i := 6) (q := 1391) dL_law_1389 rfl (by decide) rfl ?_
  dsimp only [List.set]
  refine mj_aload_n (i := 2) (q := 1392) dL_law_1391 rfl rfl rfl ?_
  refine mj_kV0i (K := m_X7_thrown) (q := 1395) (mc1 := 0) (ms1 := 0) (mc := 59) (ms := 394) dL_law_1392 ln_L_99 ok_X7_thrown (Nat.le_of_ble_eq_true rfl) (by decide) (mj_rc2 (x := 0) (ci := 9) (by first | assumption | simp [mj_up, mj_upl, mj_row, *]) rfl) rfl rfl rfl (s_thrown q1) (fun r_1392 h1 hq => ?_)
  obtain ⟨rfl, rfl⟩ := hq
  rw [q2]
  refine mj_iload (i := 5) (q := 1397) dL_law_1395 rfl rfl ?_
  refine mj_icmp_eq (tgt := 1402) (q := 1400) dL_law_1397 (by decide) rfl (fun c_1397 => ?_) (fun c_1397 => absurd rfl c_1397)
  refine mj_iload (i := 5) (q := 1404) dL_law_1402 rfl rfl ?_
  refine mj_if_ne (tgt := 1419) (q := 1407) dL_law_1404 (by decide) rfl (fun c_1404 => ?_) (fun c_1404 => absurd c_1404 (by decide))
  refine mj_goto (q := 1811) dL_law_1419 (by decide) ?_
  exact c_end (q5.trans k0)
set_option maxHeartbeats 100000 in
set_option maxRecDepth 100000 in
theorem c_ofLift {v1 v2 : Int32} {K : Nat → mj_K} {f : Nat → Nat → Int32} {g : Nat → Nat → Option Nat} (hF : lw_F K f g) (k0 : K 0 = (3, 7, 0)) (w1 : f 0 1 = v1) (w2 : f 0 2 = v2) : mj_W m_law 13 60 400 lw_QL 1422 [.ref 0, .ref 2, .ref 145, .ref 149, .int 0, .null, .null, .null, .null] [] (150, K, f, g) := by
  obtain ⟨k1, g1, g9, k2, g2, k3, g3, k4, f2, k9, kX, gX, fX2, fX4, kY, gL, gR, fY, kL, fL, gL1, kR, fR, k149⟩ := hF
  refine mj_aload_n (i := 1) (q := 1423) dL_law_1422 rfl rfl rfl ?_
  refine mj_aload_n (i := 0) (q := 1424) dL_law_1423 rfl rfl rfl ?_
  refine mj_iload (i := 4) (q := 1426) dL_law_1424 rfl rfl ?_
  refine mj_num1 (v := 1) (q := 1427) rfl dL_law_1426 rfl ?_
  refine mj_iadd (q := 1428) dL_law_1427 rfl ?_
  refine mj_sldv (L := 7) (k := 1) (q := 1429) dL_law_1428 rfl k0 (by unfold vp_in; decide) (by decide) w1 ?_
  refine mj_aload_n (i := 0) (q := 1430) dL_law_1429 rfl rfl rfl ?_
  refine mj_iload (i := 4) (q := 1432) dL_law_1430 rfl rfl ?_
  refine mj_num1 (v := 2) (q := 1433) rfl dL_law_1432 rfl ?_
  refine mj_iadd (q := 1434) dL_law_1433 rfl ?_
  refine mj_sldv (L := 7) (k := 2) (q := 1435) dL_law_1434 rfl k0 (by unfold vp_in; decide) (by decide) w2 ?_
  refine mj_aload_n (i := 3) (q := 1436) dL_law_1435 rfl rfl rfl ?_
  refine mj_kH4i (K := m_L_ofLift) (q := 1439) (mc1 := 1) (ms1 := 6) (mc := 59) (ms := 394) dL_law_1436 ln_L_159 ok_L_ofLift (Nat.le_of_ble_eq_true rfl) (by decide) rfl rfl rfl (l_ofLift k1 g1 k2 f2 k149) (fun r_1436 h1 hq => ?_)
  obtain ⟨rfl, rfl⟩ := hq
  refine mj_istore (i := 5) (q := 1441) dL_law_1439 rfl (by decide) rfl ?_
  dsimp only [List.set]
  refine mj_aload_n (i := 2) (q := 1442) dL_law_1441 rfl rfl rfl ?_
  refine mj_aload_n (i := 0) (q := 1443) dL_law_1442 rfl rfl rfl ?_
  refine mj_iload (i := 4) (q := 1445) dL_law_1443 rfl rfl ?_
  refine mj_num1 (v := 1) (q := 1446) rfl dL_law_1445 rfl ?_
  refine mj_iadd (q := 1447) dL_law_1446 rfl ?_
  refine mj_sldv (L := 7) (k := 1) (q := 1448) dL_law_1447 rfl k0 (by unfold vp_in; decide) (by decide) w1 ?_
  refine mj_aload_n (i := 0) (q := 1449) dL_law_1448 rfl rfl rfl ?_
  refine mj_iload (i := 4) (q := 1451) dL_law_1449 rfl rfl ?_
  refine mj_num1 (v := 2) (q := 1452) rfl dL_law_1451 rfl ?_
  refine mj_iadd (q := 1453) dL_law_1452 rfl ?_
  refine mj_sldv (L := 7) (k := 2) (q := 1454) dL_law_1453 rfl k0 (by unfold vp_in; decide) (by decide) w2 ?_
  refine mj_kV2i (K := m_X7_ofLift) (q := 1457) (mc1 := 0) (ms1 := 0) (mc := 59) (ms := 394) dL_law_1454 ln_L_161 ok_X7_ofLift (Nat.le_of_ble_eq_true rfl) (by decide) (mj_rc2 (x := 0) (ci := 9) (by first | assumption | simp [mj_up, mj_upl, mj_row, *]) rfl) rfl rfl rfl (r_ofLift kX gX kY gL gR kL kR fL fR) (fun r_1454 h1 hq => ?_)
  obtain ⟨rfl, n2, K2, f8, g8, rfl, q1, q2, q3, q4, q5⟩ := hq
  refine mj_istore (i := 6) (q := 1459) dL_law_1457 rfl (by decide) rfl ?_
  dsimp only [List.set]
  refine mj_aload_n (i := 2) (q := 1460) dL_law_1459 rfl rfl rfl ?_
  refine mj_kV0i (K := m_X7_thrown) (q := 1463) (mc1 := 0) (ms1 := 0) (mc := 59) (ms := 394) dL_law_1460 ln_L_99 ok_X7_thrown (Nat.le_of_ble_eq_true rfl) (by decide) (mj_rc2 (x := 0) (ci := 9) (by first | assumption | simp [mj_up, mj_upl, mj_row, *]) rfl) rfl rfl rfl (s_thrown q1) (fun r_1460 h1 hq => ?_)
  obtain ⟨rfl, rfl⟩ := hq
  rw [q2]
  refine mj_iload (i := 5) (q := 1465) dL_law_1463 rfl rfl ?_
  refine mj_icmp_eq (tgt := 1470) (q := 1468) dL_law_1465 (by decide) rfl (fun c_1465 => ?_) (fun c_1465 => absurd rfl c_1465)
  refine mj_iload (i := 5) (q := 1472) dL_law_1470 rfl rfl ?_
  refine mj_if_ne (tgt := 1487) (q := 1475) dL_law_1472 (by decide) rfl (fun c_1472 => ?_) (fun c_1472 => absurd c_1472 (by decide))
  refine mj_goto (q := 1811) dL_law_1487 (by decide) ?_
  exact c_end (q5.trans k0)
set_option maxHeartbeats 100000 in
set_option maxRecDepth 100000 in
theorem c_many {k : Nat} {K : Nat → mj_K} {f : Nat → Nat → Int32} {g : Nat → Nat → Option Nat} (hF : lw_F K f g) (k0 : K 0 = (3, 7, 0)) (w1 : f 0 1 = nI k) (hk : k < 15) : mj_W m_law 13 60 400 lw_QL 1490 [.ref 0, .ref 2, .ref 145, .ref 149, .int 0, .null, .null, .null, .null] [] (150, K, f, g) := by
  obtain ⟨k1, g1, g9, k2, g2, k3, g3, k4, f2, k9, kX, gX, fX2, fX4, kY, gL, gR, fY, kL, fL, gL1, kR, fR, k149⟩ := hF
  refine mj_aload_n (i := 1) (q := 1491) dL_law_1490 rfl rfl rfl ?_
  refine mj_aload_n (i := 0) (q := 1492) dL_law_1491 rfl rfl rfl ?_
  refine mj_iload (i := 4) (q := 1494) dL_law_1492 rfl rfl ?_
  refine mj_num1 (v := 1) (q := 1495) rfl dL_law_1494 rfl ?_
  refine mj_iadd (q := 1496) dL_law_1495 rfl ?_
  refine mj_sldv (L := 7) (k := 1) (q := 1497) dL_law_1496 rfl k0 (by unfold vp_in; decide) (by decide) w1 ?_
  refine mj_aload_n (i := 3) (q := 1498) dL_law_1497 rfl rfl rfl ?_
  refine mj_kH3i (K := m_L_many) (q := 1501) (mc1 := 1) (ms1 := 6) (mc := 59) (ms := 394) dL_law_1498 ln_L_162 ok_L_many (Nat.le_of_ble_eq_true rfl) (by decide) rfl rfl rfl (l_many k1 g1 k2 f2 k149 hk) (fun r_1498 h1 hq => ?_)
  obtain ⟨rfl, f9, rfl, e9, z1⟩ := hq
  refine mj_istore (i := 5) (q := 1503) dL_law_1501 rfl (by decide) rfl ?_
  dsimp only [List.set]
  refine mj_aload_n (i := 2) (q := 1504) dL_law_1503 rfl rfl rfl ?_
  refine mj_aload_n (i := 0) (q := 1505) dL_law_1504 rfl rfl rfl ?_
  refine mj_iload (i := 4) (q := 1507) dL_law_1505 rfl rfl ?_
  refine mj_num1 (v := 1) (q := 1508) rfl dL_law_1507 rfl ?_
  refine mj_iadd (q := 1509) dL_law_1508 rfl ?_
  refine mj_sldv (L := 7) (k := 1) (q := 1510) dL_law_1509 rfl k0 (by unfold vp_in; decide) (by decide) ((congrFun (z1 0 (Or.inl rfl)) 1).trans w1) ?_
  refine mj_kV1i (K := m_X7_many) (q := 1513) (mc1 := 3) (ms1 := 23) (mc := 56) (ms := 371) dL_law_1510 ln_L_164 ok_X7_many (Nat.le_of_ble_eq_true rfl) (by decide) (mj_rc2 (x := 0) (ci := 9) (by first | assumption | simp [mj_up, mj_upl, mj_row, *]) rfl) rfl rfl rfl (r_many kX gX kY gL gR kL kR ((congrFun (z1 147 (Or.inr (by decide))) 2).trans fL) ((congrFun (z1 148 (Or.inr (by decide))) 2).trans fR) ((z1 146 (Or.inr (by decide))).trans fY) ((congrFun (z1 145 (Or.inr (by decide))) 2).trans fX2) ((congrFun (z1 145 (Or.inr (by decide))) 4).trans fX4) (by omega) hk) (fun r_1510 h1 hq => ?_)
  obtain ⟨rfl, n2, K2, f8, g8, rfl, q1, q2, q3, q4, q5⟩ := hq
  refine mj_istore (i := 6) (q := 1515) dL_law_1513 rfl (by decide) rfl ?_
  dsimp only [List.set]
  refine mj_aload_n (i := 2) (q := 1516) dL_law_1515 rfl rfl rfl ?_
  refine mj_kV0i (K := m_X7_thrown) (q := 1519) (mc1 := 0) (ms1 := 0) (mc := 56) (ms := 371) dL_law_1516 ln_L_99 ok_X7_thrown (Nat.le_of_ble_eq_true rfl) (by decide) (mj_rc2 (x := 0) (ci := 9) (by first | assumption | simp [mj_up, mj_upl, mj_row, *]) rfl) rfl rfl rfl (s_thrown q1) (fun r_1516 h1 hq => ?_)
  obtain ⟨rfl, rfl⟩ := hq
  rw [q2]
  refine mj_iload (i := 5) (q := 1521) dL_law_1519 rfl rfl ?_
  refine mj_icmp_eq (tgt := 1526) (q := 1524) dL_law_1521 (by decide) rfl (fun c_1521 => ?_) (fun c_1521 => absurd rfl c_1521)
  refine mj_iload (i := 5) (q := 1528) dL_law_1526 rfl rfl ?_
  refine mj_if_ne (tgt := 1543) (q := 1531) dL_law_1528 (by decide) rfl (fun c_1528 => absurd rfl c_1528) (fun c_1528 => ?_)
  refine mj_aload_n (i := 3) (q := 1532) dL_law_1531 rfl rfl rfl ?_
  refine mj_num1 (v := 0) (q := 1533) rfl dL_law_1532 rfl ?_
  refine mj_laldv (L := 1) (x := 0) (k := 0) (v := Int32.toInt64 (v_many k)) (q := 1534) dL_law_1533 rfl (q3.trans k149) (by unfold vp_in; decide) (by decide) (by rw [q4]; exact e9) ?_
  refine mj_iload (i := 6) (q := 1536) dL_law_1534 rfl rfl ?_
  refine mj_i2l (q := 1537) dL_law_1536 rfl ?_
  refine mj_lcmp (q := 1538) dL_law_1537 rfl ?_
  refine mj_if_eq (tgt := 1543) (q := 1541) dL_law_1538 (by decide) rfl (fun c_1538 => ?_) (fun c_1538 => absurd ((lg_cmp_eq _ _).mpr rfl) c_1538)
  refine mj_goto (q := 1811) dL_law_1543 (by decide) ?_
  exact c_end (q5.trans k0)
set_option maxHeartbeats 100000 in
set_option maxRecDepth 100000 in
theorem cx_many {v1 : Int32} {K : Nat → mj_K} {f : Nat → Nat → Int32} {g : Nat → Nat → Option Nat} (hF : lw_F K f g) (k0 : K 0 = (3, 7, 0)) (w1 : f 0 1 = v1) (hx : v1 < 0 ∨ ¬ v1 ≤ 14) : mj_W m_law 13 60 400 lw_QL 1490 [.ref 0, .ref 2, .ref 145, .ref 149, .int 0, .null, .null, .null, .null] [] (150, K, f, g) := by
  obtain ⟨k1, g1, g9, k2, g2, k3, g3, k4, f2, k9, kX, gX, fX2, fX4, kY, gL, gR, fY, kL, fL, gL1, kR, fR, k149⟩ := hF
  refine mj_aload_n (i := 1) (q := 1491) dL_law_1490 rfl rfl rfl ?_
  refine mj_aload_n (i := 0) (q := 1492) dL_law_1491 rfl rfl rfl ?_
  refine mj_iload (i := 4) (q := 1494) dL_law_1492 rfl rfl ?_
  refine mj_num1 (v := 1) (q := 1495) rfl dL_law_1494 rfl ?_
  refine mj_iadd (q := 1496) dL_law_1495 rfl ?_
  refine mj_sldv (L := 7) (k := 1) (q := 1497) dL_law_1496 rfl k0 (by unfold vp_in; decide) (by decide) w1 ?_
  refine mj_aload_n (i := 3) (q := 1498) dL_law_1497 rfl rfl rfl ?_
  refine mj_kH3i (K := m_L_many) (q := 1501) (mc1 := 1) (ms1 := 6) (mc := 59) (ms := 394) dL_law_1498 ln_L_162 ok_L_many (Nat.le_of_ble_eq_true rfl) (by decide) rfl rfl rfl (lx_many k1 hx) (fun r_1498 h1 hq => ?_)
  obtain ⟨rfl, rfl⟩ := hq
  refine mj_istore (i := 5) (q := 1503) dL_law_1501 rfl (by decide) rfl ?_
  dsimp only [List.set]
  refine mj_aload_n (i := 2) (q := 1504) dL_law_1503 rfl rfl rfl ?_
  refine mj_aload_n (i := 0) (q := 1505) dL_law_1504 rfl rfl rfl ?_
  refine mj_iload (i := 4) (q := 1507) dL_law_1505 rfl rfl ?_
  refine mj_num1 (v := 1) (q := 1508) rfl dL_law_1507 rfl ?_
  refine mj_iadd (q := 1509) dL_law_1508 rfl ?_
  refine mj_sldv (L := 7) (k := 1) (q := 1510) dL_law_1509 rfl k0 (by unfold vp_in; decide) (by decide) w1 ?_
  refine mj_kV1i (K := m_X7_many) (q := 1513) (mc1 := 0) (ms1 := 0) (mc := 59) (ms := 394) dL_law_1510 ln_L_164 ok_X7_many (Nat.le_of_ble_eq_true rfl) (by decide) (mj_rc2 (x := 0) (ci := 9) (by first | assumption | simp [mj_up, mj_upl, mj_row, *]) rfl) rfl rfl rfl (rx_many kX hx) (fun r_1510 h1 hq => ?_)
  obtain ⟨rfl, n2, K2, f8, g8, rfl, q1, q2, q3, q4, q5⟩ := hq
  refine mj_istore (i := 6) (q := 1515) dL_law_1513 rfl (by decide) rfl ?_
  dsimp only [List.set]
  refine mj_aload_n (i := 2) (q := 1516) dL_law_1515 rfl rfl rfl ?_
  refine mj_kV0i (K := m_X7_thrown) (q := 1519) (mc1 := 0) (ms1 := 0) (mc := 59) (ms := 394) dL_law_1516 ln_L_99 ok_X7_thrown (Nat.le_of_ble_eq_true rfl) (by decide) (mj_rc2 (x := 0) (ci := 9) (by first | assumption | simp [mj_up, mj_upl, mj_row, *]) rfl) rfl rfl rfl (s_thrown q1) (fun r_1516 h1 hq => ?_)
  obtain ⟨rfl, rfl⟩ := hq
  rw [q2]
  refine mj_iload (i := 5) (q := 1521) dL_law_1519 rfl rfl ?_
  refine mj_icmp_eq (tgt := 1526) (q := 1524) dL_law_1521 (by decide) rfl (fun c_1521 => ?_) (fun c_1521 => absurd rfl c_1521)
  refine mj_iload (i := 5) (q := 1528) dL_law_1526 rfl rfl ?_
  refine mj_if_ne (tgt := 1543) (q := 1531) dL_law_1528 (by decide) rfl (fun c_1528 => ?_) (fun c_1528 => absurd c_1528 (by decide))
  refine mj_goto (q := 1811) dL_law_1543 (by decide) ?_
  exact c_end (q5.trans k0)
set_option maxHeartbeats 100000 in
set_option maxRecDepth 100000 in
theorem c_wouldRisk {v1 v2 v3 v4 : Int32} {K : Nat → mj_K} {f : Nat → Nat → Int32} {g : Nat → Nat → Option Nat} (hF : lw_F K f g) (k0 : K 0 = (3, 7, 0)) (w1 : f 0 1 = v1) (w2 : f 0 2 = v2) (w3 : f 0 3 = v3) (w4 : f 0 4 = v4) : mj_W m_law 13 60 400 lw_QL 1587 [.ref 0, .ref 2, .ref 145, .ref 149, .int 0, .null, .null, .null, .null] [] (150, K, f, g) := by
  obtain ⟨k1, g1, g9, k2, g2, k3, g3, k4, f2, k9, kX, gX, fX2, fX4, kY, gL, gR, fY, kL, fL, gL1, kR, fR, k149⟩ := hF
  refine mj_aload_n (i := 1) (q := 1588) dL_law_1587 rfl rfl rfl ?_
  refine mj_aload_n (i := 0) (q := 1589) dL_law_1588 rfl rfl rfl ?_
  refine mj_iload (i := 4) (q := 1591) dL_law_1589 rfl rfl ?_
  refine mj_num1 (v := 1) (q := 1592) rfl dL_law_1591 rfl ?_
  refine mj_iadd (q := 1593) dL_law_1592 rfl ?_
  refine mj_sldv (L := 7) (k := 1) (q := 1594) dL_law_1593 rfl k0 (by unfold vp_in; decide) (by decide) w1 ?_
  refine mj_aload_n (i := 0) (q := 1595) dL_law_1594 rfl rfl rfl ?_
  refine mj_iload (i := 4) (q := 1597) dL_law_1595 rfl rfl ?_
  refine mj_num1 (v := 2) (q := 1598) rfl dL_law_1597 rfl ?_
  refine mj_iadd (q := 1599) dL_law_1598 rfl ?_
  refine mj_sldv (L := 7) (k := 2) (q := 1600) dL_law_1599 rfl k0 (by unfold vp_in; decide) (by decide) w2 ?_
  refine mj_aload_n (i := 0) (q := 1601) dL_law_1600 rfl rfl rfl ?_
  refine mj_iload (i := 4) (q := 1603) dL_law_1601 rfl rfl ?_
  refine mj_num1 (v := 3) (q := 1604) rfl dL_law_1603 rfl ?_
  refine mj_iadd (q := 1605) dL_law_1604 rfl ?_
  refine mj_sldv (L := 7) (k := 3) (q := 1606) dL_law_1605 rfl k0 (by unfold vp_in; decide) (by decide) w3 ?_
  refine mj_aload_n (i := 0) (q := 1607) dL_law_1606 rfl rfl rfl ?_
  refine mj_iload (i := 4) (q := 1609) dL_law_1607 rfl rfl ?_
  refine mj_num1 (v := 4) (q := 1610) rfl dL_law_1609 rfl ?_
  refine mj_iadd (q := 1611) dL_law_1610 rfl ?_
  refine mj_sldv (L := 7) (k := 4) (q := 1612) dL_law_1611 rfl k0 (by unfold vp_in; decide) (by decide) w4 ?_
  refine mj_aload_n (i := 3) (q := 1613) dL_law_1612 rfl rfl rfl ?_
  refine mj_kH6i (K := m_L_wouldRisk) (q := 1616) (mc1 := 1) (ms1 := 6) (mc := 59) (ms := 394) dL_law_1613 ln_L_170 ok_L_wouldRisk (Nat.le_of_ble_eq_true rfl) (by decide) rfl rfl rfl (l_wouldRisk k1 g1 k2 f2 k149) (fun r_1613 h1 hq => ?_)
  obtain ⟨rfl, rfl⟩ := hq
  refine mj_istore (i := 5) (q := 1618) dL_law_1616 rfl (by decide) rfl ?_
  dsimp only [List.set]
  refine mj_aload_n (i := 2) (q := 1619) dL_law_1618 rfl rfl rfl ?_
  refine mj_aload_n (i := 0) (q := 1620) dL_law_1619 rfl rfl rfl ?_
  refine mj_iload (i := 4) (q := 1622) dL_law_1620 rfl rfl ?_
  refine mj_num1 (v := 1) (q := 1623) rfl dL_law_1622 rfl ?_
  refine mj_iadd (q := 1624) dL_law_1623 rfl ?_
  refine mj_sldv (L := 7) (k := 1) (q := 1625) dL_law_1624 rfl k0 (by unfold vp_in; decide) (by decide) w1 ?_
  refine mj_aload_n (i := 0) (q := 1626) dL_law_1625 rfl rfl rfl ?_
  refine mj_iload (i := 4) (q := 1628) dL_law_1626 rfl rfl ?_
  refine mj_num1 (v := 2) (q := 1629) rfl dL_law_1628 rfl ?_
  refine mj_iadd (q := 1630) dL_law_1629 rfl ?_
  refine mj_sldv (L := 7) (k := 2) (q := 1631) dL_law_1630 rfl k0 (by unfold vp_in; decide) (by decide) w2 ?_
  refine mj_aload_n (i := 0) (q := 1632) dL_law_1631 rfl rfl rfl ?_
  refine mj_iload (i := 4) (q := 1634) dL_law_1632 rfl rfl ?_
  refine mj_num1 (v := 3) (q := 1635) rfl dL_law_1634 rfl ?_
  refine mj_iadd (q := 1636) dL_law_1635 rfl ?_
  refine mj_sldv (L := 7) (k := 3) (q := 1637) dL_law_1636 rfl k0 (by unfold vp_in; decide) (by decide) w3 ?_
  refine mj_aload_n (i := 0) (q := 1638) dL_law_1637 rfl rfl rfl ?_
  refine mj_iload (i := 4) (q := 1640) dL_law_1638 rfl rfl ?_
  refine mj_num1 (v := 4) (q := 1641) rfl dL_law_1640 rfl ?_
  refine mj_iadd (q := 1642) dL_law_1641 rfl ?_
  refine mj_sldv (L := 7) (k := 4) (q := 1643) dL_law_1642 rfl k0 (by unfold vp_in; decide) (by decide) w4 ?_
  refine mj_kV4i (K := m_X7_wouldRisk) (q := 1646) (mc1 := 0) (ms1 := 0) (mc := 59) (ms := 394) dL_law_1643 ln_L_173 ok_X7_wouldRisk (Nat.le_of_ble_eq_true rfl) (by decide) (mj_rc2 (x := 0) (ci := 9) (by first | assumption | simp [mj_up, mj_upl, mj_row, *]) rfl) rfl rfl rfl (r_wouldRisk kX gX kY gL gR kL kR fL fR) (fun r_1643 h1 hq => ?_)
  obtain ⟨rfl, n2, K2, f8, g8, rfl, q1, q2, q3, q4, q5⟩ := hq
  refine mj_istore (i := 6) (q := 1648) dL_law_1646 rfl (by decide) rfl ?_
  dsimp only [List.set]
  refine mj_aload_n (i := 2) (q := 1649) dL_law_1648 rfl rfl rfl ?_
  refine mj_kV0i (K := m_X7_thrown) (q := 1652) (mc1 := 0) (ms1 := 0) (mc := 59) (ms := 394) dL_law_1649 ln_L_99 ok_X7_thrown (Nat.le_of_ble_eq_true rfl) (by decide) (mj_rc2 (x := 0) (ci := 9) (by first | assumption | simp [mj_up, mj_upl, mj_row, *]) rfl) rfl rfl rfl (s_thrown q1) (fun r_1649 h1 hq => ?_)
  obtain ⟨rfl, rfl⟩ := hq
  rw [q2]
  refine mj_iload (i := 5) (q := 1654) dL_law_1652 rfl rfl ?_
  refine mj_icmp_eq (tgt := 1659) (q := 1657) dL_law_1654 (by decide) rfl (fun c_1654 => ?_) (fun c_1654 => absurd rfl c_1654)
  refine mj_iload (i := 5) (q := 1661) dL_law_1659 rfl rfl ?_
  refine mj_if_ne (tgt := 1676) (q := 1664) dL_law_1661 (by decide) rfl (fun c_1661 => ?_) (fun c_1661 => absurd c_1661 (by decide))
  refine mj_goto (q := 1811) dL_law_1676 (by decide) ?_
  exact c_end (q5.trans k0)
set_option maxHeartbeats 100000 in
set_option maxRecDepth 100000 in
theorem c_wouldMake {v1 v2 v3 v4 : Int32} {K : Nat → mj_K} {f : Nat → Nat → Int32} {g : Nat → Nat → Option Nat} (hF : lw_F K f g) (k0 : K 0 = (3, 7, 0)) (w1 : f 0 1 = v1) (w2 : f 0 2 = v2) (w3 : f 0 3 = v3) (w4 : f 0 4 = v4) : mj_W m_law 13 60 400 lw_QL 1679 [.ref 0, .ref 2, .ref 145, .ref 149, .int 0, .null, .null, .null, .null] [] (150, K, f, g) := by
  obtain ⟨k1, g1, g9, k2, g2, k3, g3, k4, f2, k9, kX, gX, fX2, fX4, kY, gL, gR, fY, kL, fL, gL1, kR, fR, k149⟩ := hF
  refine mj_aload_n (i := 1) (q := 1680) dL_law_1679 rfl rfl rfl ?_
  refine mj_aload_n (i := 0) (q := 1681) dL_law_1680 rfl rfl rfl ?_
  refine mj_iload (i := 4) (q := 1683) dL_law_1681 rfl rfl ?_
  refine mj_num1 (v := 1) (q := 1684) rfl dL_law_1683 rfl ?_
  refine mj_iadd (q := 1685) dL_law_1684 rfl ?_
  refine mj_sldv (L := 7) (k := 1) (q := 1686) dL_law_1685 rfl k0 (by unfold vp_in; decide) (by decide) w1 ?_
  refine mj_aload_n (i := 0) (q := 1687) dL_law_1686 rfl rfl rfl ?_
  refine mj_iload (i := 4) (q := 1689) dL_law_1687 rfl rfl ?_
  refine mj_num1 (v := 2) (q := 1690) rfl dL_law_1689 rfl ?_
  refine mj_iadd (q := 1691) dL_law_1690 rfl ?_
  refine mj_sldv (L := 7) (k := 2) (q := 1692) dL_law_1691 rfl k0 (by unfold vp_in; decide) (by decide) w2 ?_
  refine mj_aload_n (i := 0) (q := 1693) dL_law_1692 rfl rfl rfl ?_
  refine mj_iload (i := 4) (q := 1695) dL_law_1693 rfl rfl ?_
  refine mj_num1 (v := 3) (q := 1696) rfl dL_law_1695 rfl ?_
  refine mj_iadd (q := 1697) dL_law_1696 rfl ?_
  refine mj_sldv (L := 7) (k := 3) (q := 1698) dL_law_1697 rfl k0 (by unfold vp_in; decide) (by decide) w3 ?_
  refine mj_aload_n (i := 0) (q := 1699) dL_law_1698 rfl rfl rfl ?_
  refine mj_iload (i := 4) (q := 1701) dL_law_1699 rfl rfl ?_
  refine mj_num1 (v := 4) (q := 1702) rfl dL_law_1701 rfl ?_
  refine mj_iadd (q := 1703) dL_law_1702 rfl ?_
  refine mj_sldv (L := 7) (k := 4) (q := 1704) dL_law_1703 rfl k0 (by unfold vp_in; decide) (by decide) w4 ?_
  refine mj_aload_n (i := 3) (q := 1705) dL_law_1704 rfl rfl rfl ?_
  refine mj_kH6i (K := m_L_wouldMake) (q := 1708) (mc1 := 1) (ms1 := 6) (mc := 59) (ms := 394) dL_law_1705 ln_L_174 ok_L_wouldMake (Nat.le_of_ble_eq_true rfl) (by decide) rfl rfl rfl (l_wouldMake k1 g1 k2 f2 k149) (fun r_1705 h1 hq => ?_)
  obtain ⟨rfl, rfl⟩ := hq
  refine mj_istore (i := 5) (q := 1710) dL_law_1708 rfl (by decide) rfl ?_
  dsimp only [List.set]
  refine mj_aload_n (i := 2) (q := 1711) dL_law_1710 rfl rfl rfl ?_
  refine mj_aload_n (i := 0) (q := 1712) dL_law_1711 rfl rfl rfl ?_
  refine mj_iload (i := 4) (q := 1714) dL_law_1712 rfl rfl ?_
  refine mj_num1 (v := 1) (q := 1715) rfl dL_law_1714 rfl ?_
  refine mj_iadd (q := 1716) dL_law_1715 rfl ?_
  refine mj_sldv (L := 7) (k := 1) (q := 1717) dL_law_1716 rfl k0 (by unfold vp_in; decide) (by decide) w1 ?_
  refine mj_aload_n (i := 0) (q := 1718) dL_law_1717 rfl rfl rfl ?_
  refine mj_iload (i := 4) (q := 1720) dL_law_1718 rfl rfl ?_
  refine mj_num1 (v := 2) (q := 1721) rfl dL_law_1720 rfl ?_
  refine mj_iadd (q := 1722) dL_law_1721 rfl ?_
  refine mj_sldv (L := 7) (k := 2) (q := 1723) dL_law_1722 rfl k0 (by unfold vp_in; decide) (by decide) w2 ?_
  refine mj_aload_n (i := 0) (q := 1724) dL_law_1723 rfl rfl rfl ?_
  refine mj_iload (i := 4) (q := 1726) dL_law_1724 rfl rfl ?_
  refine mj_num1 (v := 3) (q := 1727) rfl dL_law_1726 rfl ?_
  refine mj_iadd (q := 1728) dL_law_1727 rfl ?_
  refine mj_sldv (L := 7) (k := 3) (q := 1729) dL_law_1728 rfl k0 (by unfold vp_in; decide) (by decide) w3 ?_
  refine mj_aload_n (i := 0) (q := 1730) dL_law_1729 rfl rfl rfl ?_
  refine mj_iload (i := 4) (q := 1732) dL_law_1730 rfl rfl ?_
  refine mj_num1 (v := 4) (q := 1733) rfl dL_law_1732 rfl ?_
  refine mj_iadd (q := 1734) dL_law_1733 rfl ?_
  refine mj_sldv (L := 7) (k := 4) (q := 1735) dL_law_1734 rfl k0 (by unfold vp_in; decide) (by decide) w4 ?_
  refine mj_kV4i (K := m_X7_wouldMake) (q := 1738) (mc1 := 0) (ms1 := 0) (mc := 59) (ms := 394) dL_law_1735 ln_L_176 ok_X7_wouldMake (Nat.le_of_ble_eq_true rfl) (by decide) (mj_rc2 (x := 0) (ci := 9) (by first | assumption | simp [mj_up, mj_upl, mj_row, *]) rfl) rfl rfl rfl (r_wouldMake kX gX kY gL gR kL kR fL fR) (fun r_1735 h1 hq => ?_)
  obtain ⟨rfl, n2, K2, f8, g8, rfl, q1, q2, q3, q4, q5⟩ := hq
  refine mj_istore (i := 6) (q := 1740) dL_law_1738 rfl (by decide) rfl ?_
  dsimp only [List.set]
  refine mj_aload_n (i := 2) (q := 1741) dL_law_1740 rfl rfl rfl ?_
  refine mj_kV0i (K := m_X7_thrown) (q := 1744) (mc1 := 0) (ms1 := 0) (mc := 59) (ms := 394) dL_law_1741 ln_L_99 ok_X7_thrown (Nat.le_of_ble_eq_true rfl) (by decide) (mj_rc2 (x := 0) (ci := 9) (by first | assumption | simp [mj_up, mj_upl, mj_row, *]) rfl) rfl rfl rfl (s_thrown q1) (fun r_1741 h1 hq => ?_)
  obtain ⟨rfl, rfl⟩ := hq
  rw [q2]
  refine mj_iload (i := 5) (q := 1746) dL_law_1744 rfl rfl ?_
  refine mj_icmp_eq (tgt := 1751) (q := 1749) dL_law_1746 (by decide) rfl (fun c_1746 => ?_) (fun c_1746 => absurd rfl c_1746)
  refine mj_iload (i := 5) (q := 1753) dL_law_1751 rfl rfl ?_
  refine mj_if_ne (tgt := 1768) (q := 1756) dL_law_1753 (by decide) rfl (fun c_1753 => ?_) (fun c_1753 => absurd c_1753 (by decide))
  refine mj_goto (q := 1811) dL_law_1768 (by decide) ?_
  exact c_end (q5.trans k0)
set_option maxHeartbeats 100000 in
set_option maxRecDepth 100000 in
theorem c_meanDepth {K : Nat → mj_K} {f : Nat → Nat → Int32} {g : Nat → Nat → Option Nat} (hF : lw_F K f g) (k0 : K 0 = (3, 7, 0)) : mj_W m_law 13 60 400 lw_QL 1546 [.ref 0, .ref 2, .ref 145, .ref 149, .int 0, .null, .null, .null, .null] [] (150, K, f, g) := by
  obtain ⟨k1, g1, g9, k2, g2, k3, g3, k4, f2, k9, kX, gX, fX2, fX4, kY, gL, gR, fY, kL, fL, gL1, kR, fR, k149⟩ := hF
  refine mj_aload_n (i := 1) (q := 1547) dL_law_1546 rfl rfl rfl ?_
  refine mj_kV0d (K := m_X5_meanDepth) (q := 1550) (mc1 := 0) (ms1 := 0) (mc := 60) (ms := 400) dL_law_1547 ln_L_165 ok_X5_meanDepth (Nat.le_of_ble_eq_true rfl) (by decide) (mj_rc2 (x := 0) (ci := 7) (by first | assumption | simp [mj_up, mj_upl, mj_row, *]) rfl) rfl rfl rfl (s_meanDepth k1 g1 k2 f2) (fun r_1547 h1 hq => ?_)
  obtain ⟨rfl, rfl⟩ := hq
  refine mj_dstore (i := 5) (q := 1552) dL_law_1550 rfl (by decide) rfl ?_
  dsimp only [List.set]
  refine mj_aload_n (i := 2) (q := 1553) dL_law_1552 rfl rfl rfl ?_
  refine mj_kV0d (K := m_X7_meanDepth) (q := 1556) (mc1 := 1) (ms1 := 4) (mc := 59) (ms := 396) dL_law_1553 ln_L_169 ok_X7_meanDepth (Nat.le_of_ble_eq_true rfl) (by decide) (mj_rc2 (x := 0) (ci := 9) (by first | assumption | simp [mj_up, mj_upl, mj_row, *]) rfl) rfl rfl rfl (r_meanDepth kX gX kY gL gR kL kR fL fR fY fX2 fX4 (by omega)) (fun r_1553 h1 hq => ?_)
  obtain ⟨rfl, n2, K2, f8, g8, rfl, q5⟩ := hq
  refine mj_dstore (i := 7) (q := 1558) dL_law_1556 rfl (by decide) rfl ?_
  dsimp only [List.set]
  refine mj_dload (i := 5) (q := 1560) dL_law_1558 rfl rfl ?_
  refine mj_dload (i := 7) (q := 1562) dL_law_1560 rfl rfl ?_
  refine mj_dcmp (q := 1563) dL_law_1562 rfl ?_
  refine mj_if_eq (tgt := 1584) (q := 1566) dL_law_1563 (by decide) rfl (fun c_1563 => ?_) (fun c_1563 => absurd (by decide +kernel) c_1563)
  refine mj_goto (q := 1811) dL_law_1584 (by decide) ?_
  exact c_end (q5.trans k0)
set_option maxHeartbeats 100000 in
set_option maxRecDepth 100000 in
theorem c_nextBlast {K : Nat → mj_K} {f : Nat → Nat → Int32} {g : Nat → Nat → Option Nat} (hF : lw_F K f g) (k0 : K 0 = (3, 7, 0)) : mj_W m_law 13 60 400 lw_QL 1771 [.ref 0, .ref 2, .ref 145, .ref 149, .int 0, .null, .null, .null, .null] [] (150, K, f, g) := by
  obtain ⟨k1, g1, g9, k2, g2, k3, g3, k4, f2, k9, kX, gX, fX2, fX4, kY, gL, gR, fY, kL, fL, gL1, kR, fR, k149⟩ := hF
  refine mj_aload_n (i := 1) (q := 1772) dL_law_1771 rfl rfl rfl ?_
  refine mj_kV0i (K := m_X5_nextBlast) (q := 1775) (mc1 := 0) (ms1 := 0) (mc := 60) (ms := 400) dL_law_1772 ln_L_177 ok_X5_nextBlast (Nat.le_of_ble_eq_true rfl) (by decide) (mj_rc2 (x := 0) (ci := 7) (by first | assumption | simp [mj_up, mj_upl, mj_row, *]) rfl) rfl rfl rfl (s_nextBlast k1 g1 k2 f2) (fun r_1772 h1 hq => ?_)
  obtain ⟨rfl, rfl⟩ := hq
  refine mj_aload_n (i := 2) (q := 1776) dL_law_1775 rfl rfl rfl ?_
  refine mj_kV0i (K := m_X7_nextBlast) (q := 1779) (mc1 := 0) (ms1 := 0) (mc := 60) (ms := 400) dL_law_1776 ln_L_180 ok_X7_nextBlast (Nat.le_of_ble_eq_true rfl) (by decide) (mj_rc2 (x := 0) (ci := 9) (by first | assumption | simp [mj_up, mj_upl, mj_row, *]) rfl) rfl rfl rfl (r_nextBlast kX gX kY gL gR kL kR fL fR fY fX2 fX4) (fun r_1776 h1 hq => ?_)
  obtain ⟨rfl, n2, K2, f8, g8, rfl, q5⟩ := hq
  refine mj_icmp_eq (tgt := 1811) (q := 1782) dL_law_1779 (by decide) rfl (fun c_1779 => ?_) (fun c_1779 => absurd rfl c_1779)
  exact c_end (q5.trans k0)
set_option maxHeartbeats 100000 in
set_option maxRecDepth 100000 in
theorem c_couldOpen {K : Nat → mj_K} {f : Nat → Nat → Int32} {g : Nat → Nat → Option Nat} (hF : lw_F K f g) (k0 : K 0 = (3, 7, 0)) : mj_W m_law 13 60 400 lw_QL 1784 [.ref 0, .ref 2, .ref 145, .ref 149, .int 0, .null, .null, .null, .null] [] (150, K, f, g) := by
  obtain ⟨k1, g1, g9, k2, g2, k3, g3, k4, f2, k9, kX, gX, fX2, fX4, kY, gL, gR, fY, kL, fL, gL1, kR, fR, k149⟩ := hF
  refine mj_aload_n (i := 1) (q := 1785) dL_law_1784 rfl rfl rfl ?_
  refine mj_kV0i (K := m_X5_couldOpen) (q := 1788) (mc1 := 0) (ms1 := 0) (mc := 60) (ms := 400) dL_law_1785 ln_L_181 ok_X5_couldOpen (Nat.le_of_ble_eq_true rfl) (by decide) (mj_rc2 (x := 0) (ci := 7) (by first | assumption | simp [mj_up, mj_upl, mj_row, *]) rfl) rfl rfl rfl (s_couldOpen k1 g1 k2 f2) (fun r_1785 h1 hq => ?_)
  obtain ⟨rfl, rfl⟩ := hq
  refine mj_aload_n (i := 2) (q := 1789) dL_law_1788 rfl rfl rfl ?_
  refine mj_kV0i (K := m_X7_couldOpen) (q := 1792) (mc1 := 0) (ms1 := 0) (mc := 60) (ms := 400) dL_law_1789 ln_L_184 ok_X7_couldOpen (Nat.le_of_ble_eq_true rfl) (by decide) (mj_rc2 (x := 0) (ci := 9) (by first | assumption | simp [mj_up, mj_upl, mj_row, *]) rfl) rfl rfl rfl (r_couldOpen kX gX kY gL gR kL kR fL fR fY fX2 fX4) (fun r_1789 h1 hq => ?_)
  obtain ⟨rfl, n2, K2, f8, g8, rfl, q5⟩ := hq
  refine mj_icmp_eq (tgt := 1811) (q := 1795) dL_law_1792 (by decide) rfl (fun c_1792 => ?_) (fun c_1792 => absurd rfl c_1792)
  exact c_end (q5.trans k0)
set_option maxHeartbeats 100000 in
set_option maxRecDepth 100000 in
theorem c_digest {K : Nat → mj_K} {f : Nat → Nat → Int32} {g : Nat → Nat → Option Nat} (hF : lw_F K f g) (k0 : K 0 = (3, 7, 0)) : mj_W m_law 13 60 400 lw_QL 1797 [.ref 0, .ref 2, .ref 145, .ref 149, .int 0, .null, .null, .null, .null] [] (150, K, f, g) := by
  obtain ⟨k1, g1, g9, k2, g2, k3, g3, k4, f2, k9, kX, gX, fX2, fX4, kY, gL, gR, fY, kL, fL, gL1, kR, fR, k149⟩ := hF
  refine mj_aload_n (i := 1) (q := 1798) dL_law_1797 rfl rfl rfl ?_
  refine mj_kV0l (K := m_X5_digest) (q := 1801) (mc1 := 0) (ms1 := 0) (mc := 60) (ms := 400) dL_law_1798 ln_L_185 ok_X5_digest (Nat.le_of_ble_eq_true rfl) (by decide) (mj_rc2 (x := 0) (ci := 7) (by first | assumption | simp [mj_up, mj_upl, mj_row, *]) rfl) rfl rfl rfl (s_digest k1 g1 k2 f2) (fun r_1798 h1 hq => ?_)
  obtain ⟨rfl, rfl⟩ := hq
  refine mj_aload_n (i := 2) (q := 1802) dL_law_1801 rfl rfl rfl ?_
  refine mj_kV0l (K := m_X7_digest) (q := 1805) (mc1 := 45) (ms1 := 345) (mc := 15) (ms := 55) dL_law_1802 ln_L_189 ok_X7_digest (Nat.le_of_ble_eq_true rfl) (by decide) (mj_rc2 (x := 0) (ci := 9) (by first | assumption | simp [mj_up, mj_upl, mj_row, *]) rfl) rfl rfl rfl (r_digest kX gX kY gL gR kL kR fL fR fY fX2 fX4 (by omega)) (fun r_1802 h1 hq => ?_)
  obtain ⟨rfl, n2, K2, f8, g8, rfl, q5⟩ := hq
  refine mj_lcmp (q := 1806) dL_law_1805 rfl ?_
  refine mj_if_eq (tgt := 1811) (q := 1809) dL_law_1806 (by decide) rfl (fun c_1806 => ?_) (fun c_1806 => absurd ((lg_cmp_eq _ _).mpr rfl) c_1806)
  exact c_end (q5.trans k0)
