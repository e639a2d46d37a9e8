/-! THE LAW: its start -/
/-- a run just told -/
def RS (x : rV) : Prop := JR x ∧ x.2 6 = 0 ∧ x.2 8 = 0 ∧ x.2 9 = 0 ∧ x.2 13 = 0
theorem RS.new {l h s a r : Int32} (h2 : IR 0 30 h) (h3 : IR 5 45 s) (h5 : IR 1 9 r) : RS (vNewRun v0R l h s a r) := by
  have q := h5.1
  refine ⟨⟨IS.zero, h2, h3, h5, (show IR 0 9 0 from ⟨by decide, by decide⟩), Int.le_refl 0, ?_⟩, rfl, rfl, rfl, rfl⟩
  show (0 : Int) < r.toInt
  omega
theorem rSum_0 {F : Nat → Int32} {n : Nat} (h : ∀ i, i < n → F i = 0) : rSum F n = 0 := (rSum_congr (G := fun _ => 0) h).trans (rSum_zero n)
theorem JY.start {F : Nat → Int32} {lc rc : Nat} {ls : Nat → Nat → Int32} {rs : Nat → rV} (h4 : lc ≤ 4) (h8 : rc ≤ 8) (hl : ∀ l, l < lc → IR 0 999 (ls l 0) ∧ ls l 4 = 0) (hr : ∀ i, i < rc → RS (rs i) ∧ (rs i).2 5 = F i) : JY F (lc, rc, v0Mu, ls, rs) 0 := by
  refine ⟨h4, h8, fun i hi => ⟨(hr i hi).1.1, (hr i hi).2⟩, fun l hl1 => (hl l hl1).1, (show IR 0 5000 (v0Mu 6) from ⟨by decide, by decide⟩), (show IR 0 5000 (v0Mu 9) from ⟨by decide, by decide⟩), ?_, ?_, ?_, ⟨(show 0 ≤ (v0Mu 11).toInt from by decide), (show (v0Mu 11).toInt ≤ (v0Mu 10).toInt from by decide), (show 0 ≤ (v0Mu 12).toInt from by decide), (show (v0Mu 12).toInt ≤ (v0Mu 10).toInt from by decide), (show (v0Mu 10).toInt ≤ 8 * ((0 : Nat) : Int) from by decide)⟩, (show 0 ≤ (v0Mu 13).toInt from by decide), (show (v0Mu 13).toInt ≤ 9600 * ((0 : Nat) : Int) from by decide), ⟨(show 0 ≤ (v0Mu 4).toInt from by decide), (show (v0Mu 4).toInt ≤ ((0 : Nat) : Int) from by decide)⟩, fun i hi => ?_⟩
  · exact (rSum_0 (fun i hi => (hr i hi).1.2.2.2.1)).symm
  · exact (rSum_0 (fun l hl1 => (hl l hl1).2)).symm
  · exact rSum_0 (fun i hi => (hr i hi).1.2.2.1)
  · show 0 ≤ ((rs i).2 13).toInt ∧ ((rs i).2 13).toInt ≤ (v0Mu 4).toInt
    rw [(hr i hi).1.2.2.2.2]
    exact ⟨by decide, by decide⟩
theorem ir_nI {k : Nat} (h : k < 1000) : (nI k).toInt = (k : Int) := nI_toInt (by omega)
set_option maxHeartbeats 400000 in
set_option maxRecDepth 100000 in
theorem st_lifts {d lc L mc ms : Nat} {n : Nat} {K : Nat → mj_K} {g : Nat → Nat → Option Nat} (k0 : K 0 = (3, L, 0)) (hL : L ≤ 1000) (hP : LPn K g 1 2) (hlc : lc ≤ 3) (k : ∀ (f : Nat → Nat → Int32) (ls : Nat → Nat → Int32), MN f 2 (lc, 0, v0Mu, ls, fun _ => v0R) → (∀ l, l < lc → IR 0 999 (ls l 0) ∧ ls l 4 = 0) → (∀ r, r < 8 → RN f (2 + 7 + 5 * r) v0R) → mj_W m_law (d + 8) mc ms lw_QL 75 [.ref 0, .ref 1, .int (nI lc), .int (nI lc), .null, .null, .null, .null, .null, .null, .null, .null, .null, .null, .null, .null, .null, .null, .null, .null, .null, .null, .null, .null, .null, .null, .null] [] (n, K, f, g)) : ∀ (j i : Nat) (f : Nat → Nat → Int32) (ls : Nat → Nat → Int32), i + j = lc → MN f 2 (i, 0, v0Mu, ls, fun _ => v0R) → (∀ l, l < i → IR 0 999 (ls l 0) ∧ ls l 4 = 0) → (∀ l, i ≤ l → l < 4 → LN f (2 + 2 + l) (fun _ => 0)) → (∀ r, r < 8 → RN f (2 + 7 + 5 * r) v0R) → mj_W m_law (d + 8) mc ms lw_QL 22 [.ref 0, .ref 1, .int (nI lc), .int (nI i), .null, .null, .null, .null, .null, .null, .null, .null, .null, .null, .null, .null, .null, .null, .null, .null, .null, .null, .null, .null, .null, .null, .null] [] (n, K, f, g) := by
  have kx := hP.1
  intro j
  induction j with
  | zero =>
    intro i f ls hij hN hls hfl hfr
    have hi : lc = i := by omega
    subst hi
    refine mj_iload_n (i := 3) (q := 23) dL_law_22 rfl rfl rfl ?_
    refine mj_iload_n (i := 2) (q := 24) dL_law_23 rfl rfl rfl ?_
    refine mj_icmp_ge (tgt := 75) (q := 27) dL_law_24 (by decide) rfl (fun c_24 => ?_) (fun c_24 => absurd (nI_le (a := lc) (b := lc) (Nat.le_refl _) (by omega)) c_24)
    exact k f ls hN hls hfr
  | succ j ih =>
    intro i f ls hij hN hls hfl hfr
    have hi : i < lc := by omega
    refine mj_iload_n (i := 3) (q := 23) dL_law_22 rfl rfl rfl ?_
    refine mj_iload_n (i := 2) (q := 24) dL_law_23 rfl rfl rfl ?_
    refine mj_icmp_ge (tgt := 75) (q := 27) dL_law_24 (by decide) rfl (fun c_24 => absurd c_24 (nI_ge (a := i) (b := lc) hi (by omega))) (fun c_24 => ?_)
    refine mj_aload_n (i := 1) (q := 28) dL_law_27 rfl rfl rfl ?_
    refine mj_num2 (v := 10) (q := 30) (by decide) dL_law_28 rfl ?_
    refine mj_aload_n (i := 0) (q := 31) dL_law_30 rfl rfl rfl ?_
    refine mj_num1 (v := nI 1) (q := 32) (by decide) dL_law_31 rfl ?_
    refine mj_iload_n (i := 3) (q := 33) dL_law_32 rfl rfl rfl ?_
    refine mj_iadd (q := 34) dL_law_33 rfl ?_
    rw [nI_add]
    refine mj_cS2i (K := m_L_cell) (q := 37) dL_law_34 ln_L_22 ok_L_cell (Nat.le_of_ble_eq_true rfl) (by decide) rfl (s_cellS k0 hL (by omega)) (fun r_34 h1 hq => ?_)
    subst hq
    refine mj_num3 (v := nI 300) (q := 40) (by decide) dL_law_37 rfl ?_
    refine mj_cS2i (K := m_L_below) (q := 43) dL_law_40 ln_L_9 ok_L_below (Nat.le_of_ble_eq_true rfl) (by decide) rfl (s_below (by decide)) (fun r_40 h1 hq => ?_)
    obtain ⟨rfl, rfl⟩ := hq
    obtain ⟨a, ha, ea⟩ := vBelow_rng r_34 (n := 300) (by decide) (by decide)
    rw [ea]
    refine mj_iadd (q := 44) dL_law_43 rfl ?_
    refine mj_num1 (v := 3) (q := 45) rfl dL_law_44 rfl ?_
    refine mj_aload_n (i := 0) (q := 46) dL_law_45 rfl rfl rfl ?_
    refine mj_num1 (v := nI 1) (q := 47) (by decide) dL_law_46 rfl ?_
    refine mj_iload_n (i := 3) (q := 48) dL_law_47 rfl rfl rfl ?_
    refine mj_iadd (q := 49) dL_law_48 rfl ?_
    rw [nI_add]
    refine mj_cS2i (K := m_L_cell) (q := 52) dL_law_49 ln_L_22 ok_L_cell (Nat.le_of_ble_eq_true rfl) (by decide) rfl (s_cellS k0 hL (by omega)) (fun r_49 h1 hq => ?_)
    subst hq
    refine mj_num1 (v := 4) (q := 53) rfl dL_law_52 rfl ?_
    refine mj_ishr (q := 54) dL_law_53 rfl ?_
    refine mj_num2 (v := nI 7) (q := 56) (by decide) dL_law_54 rfl ?_
    refine mj_cS2i (K := m_L_below) (q := 59) dL_law_56 ln_L_9 ok_L_below (Nat.le_of_ble_eq_true rfl) (by decide) rfl (s_below (by decide)) (fun r_56 h1 hq => ?_)
    obtain ⟨rfl, rfl⟩ := hq
    obtain ⟨b, hb, eb⟩ := vBelow_rng (r_49 >>> (4 &&& 31)) (n := 7) (by decide) (by decide)
    rw [eb]
    refine mj_iadd (q := 60) dL_law_59 rfl ?_
    have na := ir_nI (k := a) (by omega)
    have nb := ir_nI (k := b) (by omega)
    have n10 : (10 : Int32).toInt = 10 := rfl
    have n3 : (3 : Int32).toInt = 3 := rfl
    have n9 : (9 : Int32).toInt = 9 := rfl
    have n999 : (999 : Int32).toInt = 999 := rfl
    have sa := ir_add (x := 10) (y := nI a) (by omega) (by omega)
    have sb := ir_add (x := 3) (y := nI b) (by omega) (by omega)
    have w1 : 10 ≤ 10 + nI a := ir_le (by omega)
    have w2 : 10 + nI a ≤ 999 := ir_le (by omega)
    have w3 : 3 ≤ 3 + nI b := ir_le (by omega)
    have w4 : 3 + nI b ≤ 9 := ir_le (by omega)
    refine mj_cV2i (K := m_X5_lift) (q := 63) dL_law_60 ln_L_26 ok_X5_lift (Nat.le_of_ble_eq_true rfl) (by decide) (by assumption) rfl rfl (s_lift hP hN (by show i < 4; omega) (hfl i (Nat.le_refl i) (by omega)) w1 w2 w3 w4) (fun r_60 h1 hq => ?_)
    obtain ⟨rfl, f1, rfl, hN1, hf1⟩ := hq
    refine mj_iload_n (i := 3) (q := 64) dL_law_63 rfl rfl rfl ?_
    refine mj_icmp_eq (tgt := 69) (q := 67) dL_law_64 (by decide) rfl (fun c_64 => ?_) (fun c_64 => absurd rfl c_64)
    refine mj_iinc (i := 3) (q := 72) dL_law_69 rfl rfl (by decide) rfl ?_
    dsimp only [List.set]
    refine mj_goto (q := 22) dL_law_72 (by decide) ?_
    rw [show nI i + Int32.ofInt 1 = nI (i + 1) from nI_1 i]
    refine ih (i + 1) f1 _ (by omega) hN1 (fun l hl => ?_) (fun l h1 h2 => ?_) (fun r hr => ?_)
    · show IR 0 999 (mj_row ls i (vNewLift (fun _ => 0) (10 + nI a) (3 + nI b)) l 0) ∧ mj_row ls i (vNewLift (fun _ => 0) (10 + nI a) (3 + nI b)) l 4 = 0
      by_cases e : l = i
      · subst e
        rw [mj_rowe]
        exact ⟨⟨by show 0 ≤ (10 + nI a).toInt; omega, by show (10 + nI a).toInt ≤ 999; omega⟩, rfl⟩
      · rw [mj_rown e]; exact hls l (by omega)
    · have q := hfl l (by omega) h2
      have e : f1 (2 + 2 + l) = f (2 + 2 + l) := hf1 _ (by omega) (by show 2 + 2 + l ≠ 2 + 2 + i; omega)
      unfold LN at q ⊢
      rw [e]
      exact q
    · exact (hfr r hr).eq (fun a h1 h2 => hf1 a (by omega) (by show a ≠ 2 + 2 + i; omega))
set_option maxHeartbeats 400000 in
set_option maxRecDepth 100000 in
theorem st_runs {d lc rc L mc ms : Nat} {n : Nat} {K : Nat → mj_K} {g : Nat → Nat → Option Nat} {ls : Nat → Nat → Int32} (k0 : K 0 = (3, L, 0)) (hL : L ≤ 1000) (hP : LPn K g 1 2) (hKa : K 144 = (0, rc, 0)) (hlc1 : 1 ≤ lc) (hlc : lc ≤ 3) (hrc : rc ≤ 6) (k : ∀ (f : Nat → Nat → Int32) (rs : Nat → rV) (w6 : Value), MN f 2 (lc, rc, v0Mu, ls, rs) → (∀ r, r < rc → RS (rs r) ∧ (rs r).2 5 = f 144 r) → mj_W m_law (d + 8) mc ms lw_QL 185 [.ref 0, .ref 1, .int (nI lc), .int (nI rc), .ref 144, .int (nI rc), w6, .null, .null, .null, .null, .null, .null, .null, .null, .null, .null, .null, .null, .null, .null, .null, .null, .null, .null, .null, .null] [] (n, K, f, g)) : ∀ (j i : Nat) (f : Nat → Nat → Int32) (rs : Nat → rV) (w6 : Value), i + j = rc → MN f 2 (lc, i, v0Mu, ls, rs) → (∀ r, r < i → RS (rs r) ∧ (rs r).2 5 = f 144 r) → (∀ r, i ≤ r → r < 8 → RN f (2 + 7 + 5 * r) v0R) → mj_W m_law (d + 8) mc ms lw_QL 96 [.ref 0, .ref 1, .int (nI lc), .int (nI rc), .ref 144, .int (nI i), w6, .null, .null, .null, .null, .null, .null, .null, .null, .null, .null, .null, .null, .null, .null, .null, .null, .null, .null, .null, .null] [] (n, K, f, g) := by
  have kx := hP.1
  intro j
  induction j with
  | zero =>
    intro i f rs w6 hij hN hrs hfr
    have hi : rc = i := by omega
    subst hi
    refine mj_iload (i := 5) (q := 98) dL_law_96 rfl rfl ?_
    refine mj_iload_n (i := 3) (q := 99) dL_law_98 rfl rfl rfl ?_
    refine mj_icmp_ge (tgt := 185) (q := 102) dL_law_99 (by decide) rfl (fun c_99 => ?_) (fun c_99 => absurd (nI_le (a := rc) (b := rc) (Nat.le_refl _) (by omega)) c_99)
    exact k f rs w6 hN hrs
  | succ j ih =>
    intro i f rs w6 hij hN hrs hfr
    have hi : i < rc := by omega
    have hin : i < rc ∧ rc ≤ 1000 := ⟨hi, by omega⟩
    refine mj_iload (i := 5) (q := 98) dL_law_96 rfl rfl ?_
    refine mj_iload_n (i := 3) (q := 99) dL_law_98 rfl rfl rfl ?_
    refine mj_icmp_ge (tgt := 185) (q := 102) dL_law_99 (by decide) rfl (fun c_99 => absurd c_99 (nI_ge (a := i) (b := rc) hi (by omega))) (fun c_99 => ?_)
    refine mj_aload_n (i := 0) (q := 103) dL_law_102 rfl rfl rfl ?_
    refine mj_num1 (v := nI 5) (q := 104) (by decide) dL_law_103 rfl ?_
    refine mj_iload (i := 5) (q := 106) dL_law_104 rfl rfl ?_
    refine mj_iadd (q := 107) dL_law_106 rfl ?_
    rw [nI_add]
    refine mj_cS2i (K := m_L_cell) (q := 110) dL_law_107 ln_L_22 ok_L_cell (Nat.le_of_ble_eq_true rfl) (by decide) rfl (s_cellS k0 hL (by omega)) (fun r_107 h1 hq => ?_)
    subst hq
    refine mj_istore (i := 6) (q := 112) dL_law_110 rfl (by decide) rfl ?_
    dsimp only [List.set]
    refine mj_aload (i := 4) (q := 114) dL_law_112 rfl rfl ?_
    refine mj_iload (i := 5) (q := 116) dL_law_114 rfl rfl ?_
    refine mj_num1 (v := nI 1) (q := 117) (by decide) dL_law_116 rfl ?_
    refine mj_iload (i := 6) (q := 119) dL_law_117 rfl rfl ?_
    refine mj_num1 (v := 5) (q := 120) rfl dL_law_119 rfl ?_
    refine mj_ishr (q := 121) dL_law_120 rfl ?_
    refine mj_num2 (v := nI 9) (q := 123) (by decide) dL_law_121 rfl ?_
    refine mj_cS2i (K := m_L_below) (q := 126) dL_law_123 ln_L_9 ok_L_below (Nat.le_of_ble_eq_true rfl) (by decide) rfl (s_below (by decide)) (fun r_123 h1 hq => ?_)
    obtain ⟨rfl, rfl⟩ := hq
    obtain ⟨a, ha, ea⟩ := vBelow_rng (r_107 >>> (5 &&& 31)) (n := 9) (by decide) (by decide)
    rw [ea]
    refine mj_iadd (q := 127) dL_law_126 rfl ?_
    rw [nI_add]
    refine mj_iastn (q := 128) dL_law_127 rfl (by assumption) hin ?_
    have hN2 : MN (mj_up f 144 i (nI (1 + a))) 2 (lc, i, v0Mu, ls, rs) := hN.keep (mj_Fr.rf.up (lo := 144) (hi := 145) (by decide) (by decide)) (Or.inl (by decide))
    have hz : RN (mj_up f 144 i (nI (1 + a))) (2 + 7 + 5 * i) v0R := (hfr i (Nat.le_refl i) (by omega)).eq (fun q h3 h4 => mj_upr (by omega))
    refine mj_aload_n (i := 1) (q := 129) dL_law_128 rfl rfl rfl ?_
    refine mj_iload (i := 6) (q := 131) dL_law_129 rfl rfl ?_
    refine mj_iload_n (i := 2) (q := 132) dL_law_131 rfl rfl rfl ?_
    refine mj_cS2i (K := m_L_below) (q := 135) dL_law_132 ln_L_9 ok_L_below (Nat.le_of_ble_eq_true rfl) (by decide) rfl (s_below (nI_nz hlc1 (by omega))) (fun r_132 h1 hq => ?_)
    obtain ⟨rfl, rfl⟩ := hq
    obtain ⟨b, hb, eb⟩ := vBelow_rng r_107 (n := lc) (by omega) (by omega)
    rw [eb]
    refine mj_iload (i := 6) (q := 137) dL_law_135 rfl rfl ?_
    refine mj_num1 (v := 2) (q := 138) rfl dL_law_137 rfl ?_
    refine mj_ishr (q := 139) dL_law_138 rfl ?_
    refine mj_num2 (v := nI 31) (q := 141) (by decide) dL_law_139 rfl ?_
    refine mj_cS2i (K := m_L_below) (q := 144) dL_law_141 ln_L_9 ok_L_below (Nat.le_of_ble_eq_true rfl) (by decide) rfl (s_below (by decide)) (fun r_141 h1 hq => ?_)
    obtain ⟨rfl, rfl⟩ := hq
    obtain ⟨c, hc, ec⟩ := vBelow_rng (r_107 >>> (2 &&& 31)) (n := 31) (by decide) (by decide)
    rw [ec]
    refine mj_num1 (v := 5) (q := 145) rfl dL_law_144 rfl ?_
    refine mj_iload (i := 6) (q := 147) dL_law_145 rfl rfl ?_
    refine mj_num1 (v := 4) (q := 148) rfl dL_law_147 rfl ?_
    refine mj_ishr (q := 149) dL_law_148 rfl ?_
    refine mj_num2 (v := nI 41) (q := 151) (by decide) dL_law_149 rfl ?_
    refine mj_cS2i (K := m_L_below) (q := 154) dL_law_151 ln_L_9 ok_L_below (Nat.le_of_ble_eq_true rfl) (by decide) rfl (s_below (by decide)) (fun r_151 h1 hq => ?_)
    obtain ⟨rfl, rfl⟩ := hq
    obtain ⟨e, he, ee⟩ := vBelow_rng (r_107 >>> (4 &&& 31)) (n := 41) (by decide) (by decide)
    rw [ee]
    refine mj_iadd (q := 155) dL_law_154 rfl ?_
    refine mj_iload (i := 6) (q := 157) dL_law_155 rfl rfl ?_
    refine mj_num2 (v := 6) (q := 159) (by decide) dL_law_157 rfl ?_
    refine mj_ishr (q := 160) dL_law_159 rfl ?_
    refine mj_num1 (v := nI 4) (q := 161) (by decide) dL_law_160 rfl ?_
    refine mj_cS2i (K := m_L_below) (q := 164) dL_law_161 ln_L_9 ok_L_below (Nat.le_of_ble_eq_true rfl) (by decide) rfl (s_below (by decide)) (fun r_161 h1 hq => ?_)
    obtain ⟨rfl, rfl⟩ := hq
    obtain ⟨p, hp, ep⟩ := vBelow_rng (r_107 >>> (6 &&& 31)) (n := 4) (by decide) (by decide)
    rw [ep]
    refine mj_aload (i := 4) (q := 166) dL_law_164 rfl rfl ?_
    refine mj_iload (i := 5) (q := 168) dL_law_166 rfl rfl ?_
    refine mj_ialdn (q := 169) dL_law_168 rfl (by assumption) hin ?_
    rw [mj_upe]
    have na := ir_nI (k := 1 + a) (by omega)
    have nc := ir_nI (k := c) (by omega)
    have ne := ir_nI (k := e) (by omega)
    have np := ir_nI (k := p) (by omega)
    have z0 : (0 : Int32).toInt = 0 := rfl
    have z1 : (1 : Int32).toInt = 1 := rfl
    have z3 : (3 : Int32).toInt = 3 := rfl
    have z5 : (5 : Int32).toInt = 5 := rfl
    have z9 : (9 : Int32).toInt = 9 := rfl
    have z30 : (30 : Int32).toInt = 30 := rfl
    have z45 : (45 : Int32).toInt = 45 := rfl
    have se := ir_add (x := 5) (y := nI e) (by omega) (by omega)
    have w1 : 0 ≤ nI c := ir_le (by omega)
    have w2 : nI c ≤ 30 := ir_le (by omega)
    have w3 : 5 ≤ 5 + nI e := ir_le (by omega)
    have w4 : 5 + nI e ≤ 45 := ir_le (by omega)
    have w5 : 0 ≤ nI p := ir_le (by omega)
    have w6a : nI p ≤ 3 := ir_le (by omega)
    have w7 : 1 ≤ nI (1 + a) := ir_le (by omega)
    have w8 : nI (1 + a) ≤ 9 := ir_le (by omega)
    refine mj_cV5i (K := m_X5_run) (q := 172) dL_law_169 ln_L_29 ok_X5_run (Nat.le_of_ble_eq_true rfl) (by decide) (by assumption) rfl rfl (s_run hP hN2 (by show i < 8; omega) hz (by show b < lc; exact hb) w1 w2 w3 w4 w5 w6a w7 w8) (fun r_169 h1 hq => ?_)
    obtain ⟨rfl, f1, rfl, hN1, hf1⟩ := hq
    refine mj_iload (i := 5) (q := 174) dL_law_172 rfl rfl ?_
    refine mj_icmp_eq (tgt := 179) (q := 177) dL_law_174 (by decide) rfl (fun c_174 => ?_) (fun c_174 => absurd rfl c_174)
    refine mj_iinc (i := 5) (q := 182) dL_law_179 rfl rfl (by decide) rfl ?_
    dsimp only [List.set]
    refine mj_goto (q := 96) dL_law_182 (by decide) ?_
    rw [show nI i + Int32.ofInt 1 = nI (i + 1) from nI_1 i]
    refine ih (i + 1) f1 _ _ (by omega) hN1 (fun r hr => ?_) (fun r h1 h2 => ?_)
    · show RS (mj_row rs i (vNewRun v0R (nI b) (nI c) (5 + nI e) (nI p) (nI (1 + a))) r) ∧ (mj_row rs i (vNewRun v0R (nI b) (nI c) (5 + nI e) (nI p) (nI (1 + a))) r).2 5 = f1 144 r
      rw [hf1 144 (by decide) (by show 144 ≠ 2 + 7 + 5 * i; omega)]
      by_cases e9 : r = i
      · subst e9
        rw [mj_rowe, mj_upe]
        exact ⟨RS.new ⟨by omega, by omega⟩ ⟨by omega, by omega⟩ ⟨by omega, by omega⟩, rfl⟩
      · rw [mj_rown e9]
        unfold mj_up
        rw [if_neg (fun z => e9 z.2)]
        exact hrs r (by omega)
    · refine (hfr r (by omega) h2).eq (fun q h3 h4 => ?_)
      rw [hf1 q (by omega) (by show q ≠ 2 + 7 + 5 * i; omega)]
      exact mj_upr (by omega)
set_option maxHeartbeats 400000 in
set_option maxRecDepth 100000 in
theorem law_start {d L : Nat} {K : Nat → mj_K} {f : Nat → Nat → Int32} {g : Nat → Nat → Option Nat} (k0 : K 0 = (3, L, 0)) (hL : L ≤ 1000) : mj_W m_law (d + 8) (1 + (mjc_P + (1 + (1 + 7 * 70)))) (mT_N 5 + (mjs_P + (6 + (6 + 53 * 70)))) lw_QL 0 [.ref 0, .null, .null, .null, .null, .null, .null, .null, .null, .null, .null, .null, .null, .null, .null, .null, .null, .null, .null, .null, .null, .null, .null, .null, .null, .null, .null] [] (1, K, f, g) := by
  refine mj_new (ci := 5) (q := 3) dL_law_0 (by decide) cl_L_16 in_X5 rfl ?_
  refine mj_dup (q := 4) rfl dL_law_3 rfl ?_
  refine mj_cI0m (K := m_X5_init) (q := 7) dL_law_4 ln_L_21 ok_X5_init (Nat.le_of_ble_eq_true rfl) (by decide) rfl (s_X5_init (d := d + 3) (x := 1) mj_rowe) (fun h1 hq => ?_)
  obtain ⟨K1, f1, g1, rfl, hO, hP, hM⟩ := hq
  have k1 : K1 0 = (3, L, 0) := by rw [(hO 0 (by decide)).1, mj_rown (by decide)]; exact k0
  have kx := hP.1
  show mj_W _ _ _ _ _ 7 _ _ (144, K1, f1, g1)
  refine mj_astore_n (i := 1) (q := 8) dL_law_7 rfl rfl (by decide) rfl ?_
  dsimp only [List.set]
  refine mj_num1 (v := nI 1) (q := 9) (by decide) dL_law_8 rfl ?_
  refine mj_aload_n (i := 0) (q := 10) dL_law_9 rfl rfl rfl ?_
  refine mj_num1 (v := nI 0) (q := 11) (by decide) dL_law_10 rfl ?_
  refine mj_cS2i (K := m_L_cell) (q := 14) dL_law_11 ln_L_22 ok_L_cell (Nat.le_of_ble_eq_true rfl) (by decide) rfl (s_cellS k1 hL (by decide)) (fun r_11 h1 hq => ?_)
  subst hq
  refine mj_num1 (v := nI 3) (q := 15) (by decide) dL_law_14 rfl ?_
  refine mj_cS2i (K := m_L_below) (q := 18) dL_law_15 ln_L_9 ok_L_below (Nat.le_of_ble_eq_true rfl) (by decide) rfl (s_below (by decide)) (fun r_15 h1 hq => ?_)
  obtain ⟨rfl, rfl⟩ := hq
  obtain ⟨a, ha, ea⟩ := vBelow_rng r_11 (n := 3) (by decide) (by decide)
  rw [ea]
  refine mj_iadd (q := 19) dL_law_18 rfl ?_
  rw [nI_add]
  refine mj_istore_n (i := 2) (q := 20) dL_law_19 rfl rfl (by decide) rfl ?_
  dsimp only [List.set]
  refine mj_num1 (v := nI 0) (q := 21) (by decide) dL_law_20 rfl ?_
  refine mj_istore_n (i := 3) (q := 22) dL_law_21 rfl rfl (by decide) rfl ?_
  dsimp only [List.set]
  refine st_lifts k1 hL hP (lc := 1 + a) (by omega) (fun f2 ls hN2 hls hfr => ?_) (1 + a) 0 f1 (fun _ _ => 0) (Nat.zero_add _) hM.1 (fun l hl => absurd hl (Nat.not_lt_zero l)) (fun l _ hl => hM.2.1 l hl) hM.2.2
  refine mj_num1 (v := nI 1) (q := 76) (by decide) dL_law_75 rfl ?_
  refine mj_aload_n (i := 0) (q := 77) dL_law_76 rfl rfl rfl ?_
  refine mj_num1 (v := nI 4) (q := 78) (by decide) dL_law_77 rfl ?_
  refine mj_cS2i (K := m_L_cell) (q := 81) dL_law_78 ln_L_22 ok_L_cell (Nat.le_of_ble_eq_true rfl) (by decide) rfl (s_cellS k1 hL (by decide)) (fun r_78 h1 hq => ?_)
  subst hq
  refine mj_num2 (v := nI 6) (q := 83) (by decide) dL_law_81 rfl ?_
  refine mj_cS2i (K := m_L_below) (q := 86) dL_law_83 ln_L_9 ok_L_below (Nat.le_of_ble_eq_true rfl) (by decide) rfl (s_below (by decide)) (fun r_83 h1 hq => ?_)
  obtain ⟨rfl, rfl⟩ := hq
  obtain ⟨b, hb, eb⟩ := vBelow_rng r_78 (n := 6) (by decide) (by decide)
  rw [eb]
  refine mj_iadd (q := 87) dL_law_86 rfl ?_
  rw [nI_add]
  refine mj_istore_n (i := 3) (q := 88) dL_law_87 rfl rfl (by decide) rfl ?_
  dsimp only [List.set]
  refine mj_iload_n (i := 3) (q := 89) dL_law_88 rfl rfl rfl ?_
  refine mj_budget (mc1 := 1 + (1 + 7 * 70)) (ms1 := (1 + b) + (6 + 53 * 70)) (Nat.le_refl _) (by omega) ?_
  refine mj_newa (L := 1 + b) (q := 91) dL_law_89 aw_int (nI_pos (by omega)) (nI_clamp (by omega)) (by omega) rfl ?_
  refine mj_astore (i := 4) (q := 93) dL_law_91 rfl (by decide) rfl ?_
  dsimp only [List.set]
  refine mj_num1 (v := nI 0) (q := 94) (by decide) dL_law_93 rfl ?_
  refine mj_istore (i := 5) (q := 96) dL_law_94 rfl (by decide) rfl ?_
  dsimp only [List.set]
  have hP1 : LPn (mj_row K1 144 (0, 1 + b, 0)) (mj_row g1 144 (fun _ => none)) 1 2 := hP.eq (fun q hq => ⟨mj_rown (by omega), mj_rown (by omega)⟩)
  have hF1 : mj_Fr 144 145 f2 (mj_row f2 144 (fun _ => 0)) := fun q hq => mj_rown (by omega)
  refine st_runs (rc := 1 + b) ((mj_rown (by decide)).trans k1) hL hP1 mj_rowe (by omega) (by omega) (by omega) (fun f3 rs w6 hN3 hrs => ?_) (1 + b) 0 _ (fun _ => v0R) .null (Nat.zero_add _) (hN2.keep hF1 (Or.inl (by decide))) (fun r hr => absurd hr (Nat.not_lt_zero r)) (fun r _ hr => (hfr r hr).keep hF1 (Or.inl (by omega)))
  refine mj_num1 (v := nI 0) (q := 186) (by decide) dL_law_185 rfl ?_
  refine mj_istore (i := 5) (q := 188) dL_law_186 rfl (by decide) rfl ?_
  dsimp only [List.set]
  refine mj_num1 (v := nI 0) (q := 189) (by decide) dL_law_188 rfl ?_
  refine mj_istore (i := 6) (q := 191) dL_law_189 rfl (by decide) rfl ?_
  dsimp only [List.set]
  refine mj_num1 (v := 0) (q := 192) rfl dL_law_191 rfl ?_
  refine mj_istore (i := 7) (q := 194) dL_law_192 rfl (by decide) rfl ?_
  dsimp only [List.set]
  refine mj_iload_n (i := 3) (q := 195) dL_law_194 rfl rfl rfl ?_
  refine mj_budget (mc1 := 1 + 7 * 70) (ms1 := (1 + b) + 53 * 70) (Nat.le_refl _) (by omega) ?_
  refine mj_newa (L := 1 + b) (q := 197) dL_law_195 aw_int (nI_pos (by omega)) (nI_clamp (by omega)) (by omega) rfl ?_
  refine mj_astore (i := 8) (q := 199) dL_law_197 rfl (by decide) rfl ?_
  dsimp only [List.set]
  refine mj_num1 (v := 0) (q := 200) rfl dL_law_199 rfl ?_
  refine mj_istore (i := 9) (q := 202) dL_law_200 rfl (by decide) rfl ?_
  dsimp only [List.set]
  refine mj_num1 (v := 0) (q := 203) rfl dL_law_202 rfl ?_
  refine mj_istore (i := 10) (q := 205) dL_law_203 rfl (by decide) rfl ?_
  dsimp only [List.set]
  refine mj_num1 (v := nI 0) (q := 206) (by decide) dL_law_205 rfl ?_
  refine mj_istore (i := 11) (q := 208) dL_law_206 rfl (by decide) rfl ?_
  dsimp only [List.set]
  have hP2 := hP1.eq (K1 := mj_row (mj_row K1 144 (0, 1 + b, 0)) 145 (0, 1 + b, 0)) (g1 := mj_row (mj_row g1 144 (fun _ => none)) 145 (fun _ => none)) (fun q hq => ⟨mj_rown (by omega), mj_rown (by omega)⟩)
  have hF2 : mj_Fr 145 146 f3 (mj_row f3 145 (fun _ => 0)) := fun q hq => mj_rown (by omega)
  have e4 : mj_row f3 145 (fun _ => 0) 144 = f3 144 := mj_rown (by decide)
  have e5 : mj_row f3 145 (fun _ => 0) 145 = (fun _ => 0) := mj_rowe
  refine lw_loop (lc := 1 + a) (rc := 1 + b) (L := L) 70 0 146 _ _ _ (1 + a, 1 + b, v0Mu, ls, rs) _ _ _ _ _ _ _ _ _ _ _ _ _ _ _ _ _ _ _ _ (Nat.zero_add _) ⟨Nat.le_refl _, (mj_rown (by decide)).trans ((mj_rown (by decide)).trans k1), hL, hP2, hN3.keep hF2 (Or.inl (by decide)), rfl, rfl, by omega, ⟨by omega, by omega⟩, (mj_rown (by decide)).trans mj_rowe, mj_rowe, ?_, ⟨0, by decide, rfl, (show v0Mu 7 = 50 - nI 0 from by decide)⟩, ⟨0, by decide, rfl, (show v0Mu 8 = 100 - 5 * nI 0 from by decide)⟩, (rSum_0 (fun i hi => (hrs i hi).1.2.1)).symm, fun i hi => ?_, rfl, (show (0 : Int32) = v0Mu 14 + v0Mu 15 from by decide)⟩
  · rw [e4]
    exact JY.start (by omega) (by omega) hls hrs
  · rw [e5]
    exact ((hrs i hi).1.2.1).symm
