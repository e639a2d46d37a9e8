/-! THE LAW: its default case -/
set_option maxHeartbeats 400000 in
set_option maxRecDepth 100000 in
theorem lc_hour {d lc rc L T w hh t mc ms : Nat} {n : Nat} {K : Nat → mj_K} {f : Nat → Nat → Int32} {g : Nat → Nat → Option Nat} {y : mV} {v5 v6 v7 v9 v10 : Int32} {v11 vx : Int32} {w13 w14 w15 : Value} {w19 w20 w21 w22 w23 w24 w25 w26 : Value} (hJ : LJ lc rc L T n K f g y v5 v6 v7 v9 v10) (hT : T ≤ 900) (hw : 146 ≤ w) (hwn : w < n) (hKw : K w = (0, 5, 0)) (hfw : ∀ k, k < 5 → f w k = vWby vx k) (k : ∀ (n1 : Nat) (K1 : Nat → mj_K) (f1 : Nat → Nat → Int32) (g1 : Nat → Nat → Option Nat) (y1 : mV) (u10 : Int32) (u19 u20 u21 u22 u23 u24 u25 u26 : Value), LJ lc rc L (T + 1) n1 K1 f1 g1 y1 v5 v6 v7 v9 u10 → w < n1 → K1 w = (0, 5, 0) → (∀ k, k < 5 → f1 w k = vWby vx k) → mj_W m_law (d + 8) mc ms lw_QL 1352 [.ref 0, .ref 1, .int (nI lc), .int (nI rc), .ref 144, .int v5, .int v6, .int v7, .ref 145, .int v9, .int u10, .int v11, .int vx, w13, w14, w15, .ref w, .int (nI hh), .int (nI t), u19, u20, u21, u22, u23, u24, u25, u26] [] (n1, K1, f1, g1)) : mj_W m_law (d + 8) (1 + mc) (8 + ms) lw_QL 1061 [.ref 0, .ref 1, .int (nI lc), .int (nI rc), .ref 144, .int v5, .int v6, .int v7, .ref 145, .int v9, .int v10, .int v11, .int vx, w13, w14, w15, .ref w, .int (nI hh), .int (nI t), w19, w20, w21, w22, w23, w24, w25, w26] [] (n, K, f, g) := by
  have hJ0 := hJ
  obtain ⟨hn, k0, hL, hP, hN, rfl, rfl, h1lc, h1rc, kar, kea, hY, ⟨b, hb, rfl, h7⟩, ⟨q, hq20, rfl, h8⟩, rfl, hE, rfl, rfl⟩ := hJ
  have kx := hP.1
  have hlc4 := hN.1
  have hrc8 := hN.2.1
  refine mj_aload_n (i := 1) (q := 1062) dL_law_1061 rfl rfl rfl ?_
  refine mj_num1 (v := nI 4) (q := 1063) (by decide) dL_law_1062 rfl ?_
  refine mj_cV1i (K := m_X5_many) (q := 1066) dL_law_1063 ln_L_46 ok_X5_many (Nat.le_of_ble_eq_true rfl) (by decide) (by assumption) rfl rfl (s_many hP hN (by decide)) (fun r_1063 h1 hq => ?_)
  obtain ⟨rfl, rfl⟩ := hq
  refine mj_istore (i := 19) (q := 1068) dL_law_1066 rfl (by decide) rfl ?_
  dsimp only [List.set]
  refine mj_aload_n (i := 1) (q := 1069) dL_law_1068 rfl rfl rfl ?_
  refine mj_num2 (v := nI 8) (q := 1071) (by decide) dL_law_1069 rfl ?_
  refine mj_cV1i (K := m_X5_many) (q := 1074) dL_law_1071 ln_L_46 ok_X5_many (Nat.le_of_ble_eq_true rfl) (by decide) (by assumption) rfl rfl (s_many hP hN (by decide)) (fun r_1071 h1 hq => ?_)
  obtain ⟨rfl, rfl⟩ := hq
  refine mj_istore (i := 20) (q := 1076) dL_law_1074 rfl (by decide) rfl ?_
  dsimp only [List.set]
  refine mj_aload_n (i := 1) (q := 1077) dL_law_1076 rfl rfl rfl ?_
  refine mj_num2 (v := nI 10) (q := 1079) (by decide) dL_law_1077 rfl ?_
  refine mj_cV1i (K := m_X5_many) (q := 1082) dL_law_1079 ln_L_46 ok_X5_many (Nat.le_of_ble_eq_true rfl) (by decide) (by assumption) rfl rfl (s_many hP hN (by decide)) (fun r_1079 h1 hq => ?_)
  obtain ⟨rfl, rfl⟩ := hq
  refine mj_istore (i := 21) (q := 1084) dL_law_1082 rfl (by decide) rfl ?_
  dsimp only [List.set]
  refine mj_aload_n (i := 1) (q := 1085) dL_law_1084 rfl rfl rfl ?_
  refine mj_num2 (v := nI 11) (q := 1087) (by decide) dL_law_1085 rfl ?_
  refine mj_cV1i (K := m_X5_many) (q := 1090) dL_law_1087 ln_L_46 ok_X5_many (Nat.le_of_ble_eq_true rfl) (by decide) (by assumption) rfl rfl (s_many hP hN (by decide)) (fun r_1087 h1 hq => ?_)
  obtain ⟨rfl, rfl⟩ := hq
  refine mj_istore (i := 22) (q := 1092) dL_law_1090 rfl (by decide) rfl ?_
  dsimp only [List.set]
  refine mj_iload_n (i := 3) (q := 1093) dL_law_1092 rfl rfl rfl ?_
  refine mj_budget (mc1 := 1 + mc) (ms1 := y.2.1 + ms) (by omega) (by omega) ?_
  refine mj_newa (L := y.2.1) (q := 1095) dL_law_1093 aw_int (nI_pos (by omega)) (nI_clamp (by omega)) (by omega) rfl ?_
  refine mj_astore (i := 23) (q := 1097) dL_law_1095 rfl (by decide) rfl ?_
  dsimp only [List.set]
  refine mj_num1 (v := nI 0) (q := 1098) (by decide) dL_law_1097 rfl ?_
  refine mj_istore (i := 24) (q := 1100) dL_law_1098 rfl (by decide) rfl ?_
  dsimp only [List.set]
  have hold : ∀ a, a < n → mj_row K n (0, y.2.1, 0) a = K a ∧ mj_row g n (fun _ => none) a = g a := fun a ha => ⟨mj_rown (by omega), mj_rown (by omega)⟩
  have hF1 : mj_Fr n (n + 1) f (mj_row f n (fun _ => 0)) := fun a ha => mj_rown (by omega)
  have hJ1 := hJ0.new (n1 := n + 1) (by omega) hold hF1
  have hP1 := hJ1.2.2.2.1
  have hN1 := hJ1.2.2.2.2.1
  refine lh_slid (s := n) hP1 hN1 rfl (by omega) mj_rowe hrc8 (fun f2 hF2 hs2 => ?_) y.2.1 0 _ (Nat.zero_add _) mj_Fr.rf (fun a ha => absurd ha (Nat.not_lt_zero a))
  have hF12 := hF1.tr hF2
  have hJ2 := hJ0.new (n1 := n + 1) (by omega) hold hF12
  have hN2 := hJ2.2.2.2.2.1
  have hY2 := hJ2.2.2.2.2.2.2.2.2.2.2.2.1
  have hKw2 : mj_row K n (0, y.2.1, 0) w = (0, 5, 0) := (mj_rown (by omega)).trans hKw
  have hfw2 : ∀ k, k < 5 → f2 w k = vWby vx k := fun k hk => by rw [hF12 w (Or.inl hwn)]; exact hfw k hk
  obtain ⟨hYz, hH⟩ := vHour_spec (W := wBy vx) (wBy_IW vx) (by omega) hY2
  obtain ⟨z, hz⟩ : ∃ z, vHour (wBy vx) y = z := ⟨_, rfl⟩
  rw [hz] at hYz hH
  obtain ⟨tt, hLQ⟩ := HF.checks hY2 (by omega) hH rfl hYz.2.2.2.2.1.1
  have h4 := hY2.2.2.2.2.2.2.2.2.2.2.2.2.1
  refine lh_pass hP1 hN2 hKw2 hfw2 h4.1 (by have := h4.2; omega) hz hLQ.1 hH.2.2.1 (fun f3 hN3 hF3 => ?_)
  have hJ3 := hJ2.hour hYz hH hN3 hF3
  obtain ⟨e1, e2, -, -, -, -, -, hr, hl, h14⟩ := hH
  refine lh_clock (zz := z.2.2.1 14 + z.2.2.1 15) h14 ?_
  refine lh_checks (y := y) hP1 hN3 rfl hLQ ?_
  refine mj_num1 (v := nI 0) (q := 1266) (by decide) dL_law_1265 rfl ?_
  refine mj_istore (i := 26) (q := 1268) dL_law_1266 rfl (by decide) rfl ?_
  dsimp only [List.set]
  refine lh_risks (y := y) (z := z) hP1 hN3 e2 mj_rowe hrc8 (fun i hi hs => ?_) ?_ y.2.1 0 (Nat.zero_add _)
  · have hs2i : f3 n i = (y.2.2.2.2 i).2 9 := by rw [hF3 n (Or.inr (by omega))]; exact hs2 i hi
    have lt := (hr i hi).2 (hs.trans hs2i)
    exact Int32.lt_iff_toInt_lt.mpr lt
  refine mj_num1 (v := nI 0) (q := 1311) (by decide) dL_law_1310 rfl ?_
  refine mj_istore (i := 26) (q := 1313) dL_law_1311 rfl (by decide) rfl ?_
  dsimp only [List.set]
  refine lh_lifts (y := y) (z := z) hP1 hN3 e1 hKw2 hlc4 (fun i hi hs => ?_) ?_ y.1 0 (Nat.zero_add _)
  · have ew : f3 w 2 = wBy vx 2 := by rw [hF3 w (Or.inr (by omega))]; exact hfw2 2 (by decide)
    rw [ew] at hs
    have lim : vOfLift z i 1 = y.2.2.2.1 i 1 := (hl i hi).2 1 (by decide) (by decide)
    rw [lim] at hs
    show v01 (z.2.2.2.1 i 3) = 1
    rw [(hl i hi).1 hs]
    rfl
  exact k _ _ _ _ z _ _ _ _ _ _ _ _ _ hJ3 (by omega) hKw2 (fun k hk => by rw [hF3 w (Or.inr (by omega))]; exact hfw2 k hk)
set_option maxHeartbeats 400000 in
set_option maxRecDepth 100000 in
theorem lc_hours {d lc rc L T w hh mc ms : Nat} {v11 vx : Int32} {w13 w14 w15 : Value} (hT : T ≤ 420) (hh6 : hh ≤ 6) (hw : 146 ≤ w) (k : lw_K d lc rc L (T + 6) mc ms v11) : ∀ (j t : Nat) (n : Nat) (K : Nat → mj_K) (f : Nat → Nat → Int32) (g : Nat → Nat → Option Nat) (y : mV) (v5 v6 v7 v9 v10 : Int32) (w19 w20 w21 w22 w23 w24 w25 w26 : Value), t + j = hh → LJ lc rc L (T + t) n K f g y v5 v6 v7 v9 v10 → w < n → K w = (0, 5, 0) → (∀ k, k < 5 → f w k = vWby vx k) → mj_W m_law (d + 8) (j + mc) (8 * j + ms) lw_QL 1054 [.ref 0, .ref 1, .int (nI lc), .int (nI rc), .ref 144, .int v5, .int v6, .int v7, .ref 145, .int v9, .int v10, .int v11, .int vx, w13, w14, w15, .ref w, .int (nI hh), .int (nI t), w19, w20, w21, w22, w23, w24, w25, w26] [] (n, K, f, g) := by
  intro j
  induction j with
  | zero =>
    intro t n K f g y v5 v6 v7 v9 v10 w19 w20 w21 w22 w23 w24 w25 w26 hij hJ hwn hKw hfw
    have hi : hh = t := by omega
    subst hi
    refine mj_budget (mc1 := mc) (ms1 := ms) (by omega) (by omega) ?_
    refine mj_iload (i := 18) (q := 1056) dL_law_1054 rfl rfl ?_
    refine mj_iload (i := 17) (q := 1058) dL_law_1056 rfl rfl ?_
    refine mj_icmp_ge (tgt := 1358) (q := 1061) dL_law_1058 (by decide) rfl (fun c_1058 => ?_) (fun c_1058 => absurd (nI_le (a := hh) (b := hh) (Nat.le_refl _) (by omega)) c_1058)
    exact k _ _ _ _ _ _ _ _ _ _ _ _ _ _ _ _ _ _ _ _ _ _ _ _ _ (hJ.mono (by omega))
  | succ j ih =>
    intro t n K f g y v5 v6 v7 v9 v10 w19 w20 w21 w22 w23 w24 w25 w26 hij hJ hwn hKw hfw
    have hi : t < hh := by omega
    refine mj_budget (mc1 := 1 + (j + mc)) (ms1 := 8 + (8 * j + ms)) (by omega) (by omega) ?_
    refine mj_iload (i := 18) (q := 1056) dL_law_1054 rfl rfl ?_
    refine mj_iload (i := 17) (q := 1058) dL_law_1056 rfl rfl ?_
    refine mj_icmp_ge (tgt := 1358) (q := 1061) dL_law_1058 (by decide) rfl (fun c_1058 => absurd c_1058 (nI_ge (a := t) (b := hh) hi (by omega))) (fun c_1058 => ?_)
    refine lc_hour hJ (by omega) hw hwn hKw hfw (fun n1 K1 f1 g1 y1 u10 u19 u20 u21 u22 u23 u24 u25 u26 hJ1 hw1 hK1 hf1 => ?_)
    refine mj_iinc (i := 18) (q := 1355) dL_law_1352 rfl rfl (by decide) rfl ?_
    dsimp only [List.set]
    refine mj_goto (q := 1054) dL_law_1355 (by decide) ?_
    rw [show nI t + Int32.ofInt 1 = nI (t + 1) from nI_1 t]
    exact ih (t + 1) n1 K1 f1 g1 y1 _ _ _ _ _ _ _ _ _ _ _ _ _ (by omega) hJ1 hw1 hK1 hf1
set_option maxHeartbeats 400000 in
set_option maxRecDepth 100000 in
theorem lc_default {d lc rc L T mc ms : Nat} {n : Nat} {K : Nat → mj_K} {f : Nat → Nat → Int32} {g : Nat → Nat → Option Nat} {y : mV} {v5 v6 v7 v9 v10 v11 vx io : Int32} {w13 w14 w16 w17 w18 w19 w20 w21 w22 w23 w24 w25 w26 : Value} (hJ : LJ lc rc L T n K f g y v5 v6 v7 v9 v10) (hT : T ≤ 420) (k : lw_K d lc rc L (T + 6) mc ms v11) : mj_W m_law (d + 8) (7 + mc) (53 + ms) lw_QL 1031 [.ref 0, .ref 1, .int (nI lc), .int (nI rc), .ref 144, .int v5, .int v6, .int v7, .ref 145, .int v9, .int v10, .int v11, .int vx, w13, w14, .int io, w16, w17, w18, w19, w20, w21, w22, w23, w24, w25, w26] [] (n, K, f, g) := by
  have hn := hJ.1
  refine mj_iload (i := 12) (q := 1033) dL_law_1031 rfl rfl ?_
  refine mj_budget (mc1 := (1 + 0) + (6 + mc)) (ms1 := (5 + 0) + (48 + ms)) (by omega) (by omega) ?_
  refine mj_callS (K := m_L_weather) (st := []) (n := 1) [.int vx] dL_law_1033 ln_L_90 ok_L_weather rfl (Nat.zero_le _) (by decide) (s_weather (d := d + 6)) (fun v h1 hq => ?_)
  obtain ⟨rfl, f1, rfl, hf, hw⟩ := hq
  show mj_W _ _ _ _ _ 1036 _ [.ref n] _
  refine mj_astore (i := 16) (q := 1038) dL_law_1036 rfl (by decide) rfl ?_
  dsimp only [List.set]
  have hold : ∀ a, a < n → mj_row K n (0, 5, 0) a = K a ∧ mj_row g n (fun _ => none) a = g a := fun a ha => ⟨mj_rown (by omega), mj_rown (by omega)⟩
  have hJ1 := hJ.new (n1 := n + 1) (by omega) hold (f1 := f1) (fun a ha => hf a (by omega))
  refine mj_num1 (v := 1) (q := 1039) rfl dL_law_1038 rfl ?_
  refine mj_iload (i := 12) (q := 1041) dL_law_1039 rfl rfl ?_
  refine mj_num1 (v := 4) (q := 1042) rfl dL_law_1041 rfl ?_
  refine mj_ishr (q := 1043) dL_law_1042 rfl ?_
  refine mj_num2 (v := nI 6) (q := 1045) (by decide) dL_law_1043 rfl ?_
  refine mj_cS2i (K := m_L_below) (q := 1048) dL_law_1045 ln_L_9 ok_L_below (Nat.le_of_ble_eq_true rfl) (by decide) rfl (s_below (by decide)) (fun r_1045 h1 hq => ?_)
  obtain ⟨rfl, rfl⟩ := hq
  obtain ⟨j, hj, ej⟩ := vBelow_rng (vShr vx 4) (n := 6) (by decide) (by decide)
  have ej2 : vBelow (vx >>> (4 &&& 31)) (nI 6) = nI j := ej
  rw [ej2]
  refine mj_iadd (q := 1049) dL_law_1048 rfl ?_
  rw [show 1 + nI j = nI (j + 1) from by rw [Int32.add_comm]; exact nI_1 j]
  refine mj_istore (i := 17) (q := 1051) dL_law_1049 rfl (by decide) rfl ?_
  dsimp only [List.set]
  refine mj_num1 (v := nI 0) (q := 1052) (by decide) dL_law_1051 rfl ?_
  refine mj_istore (i := 18) (q := 1054) dL_law_1052 rfl (by decide) rfl ?_
  dsimp only [List.set]
  refine mj_budget (mc1 := (j + 1) + mc) (ms1 := 8 * (j + 1) + ms) (by omega) (by omega) ?_
  exact lc_hours hT (by omega) hn k (j + 1) 0 _ _ _ _ _ _ _ _ _ _ _ _ _ _ _ _ _ _ (Nat.zero_add _) hJ1 (Nat.lt_succ_self n) mj_rowe hw
