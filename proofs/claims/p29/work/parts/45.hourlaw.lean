/-! THE LAW: an hour -/
set_option maxHeartbeats 100000 in
theorem below_ir (v : Int32) {n : Nat} (h0 : 0 < n) (h1 : n < 2147483648) : 0 ≤ (vBelow v (nI n)).toInt ∧ (vBelow v (nI n)).toInt < (n : Int) := by
  obtain ⟨k, hk, e⟩ := vBelow_rng v h0 h1
  rw [e, nI_toInt (by omega)]
  omega
set_option maxHeartbeats 100000 in
theorem vWby_IW (x : Int32) : IW (vWby x) := by
  have a0 : 0 ≤ (vBelow (vShr x 3) 31).toInt ∧ (vBelow (vShr x 3) 31).toInt < 31 := below_ir (vShr x 3) (n := 31) (by decide) (by decide)
  have a1 : 0 ≤ (vBelow (vShr x 5) 10).toInt ∧ (vBelow (vShr x 5) 10).toInt < 10 := below_ir (vShr x 5) (n := 10) (by decide) (by decide)
  have a2 : 0 ≤ (vBelow (vShr x 4) 5).toInt ∧ (vBelow (vShr x 4) 5).toInt < 5 := below_ir (vShr x 4) (n := 5) (by decide) (by decide)
  have a3 : 0 ≤ (vBelow (vShr x 4) 10).toInt ∧ (vBelow (vShr x 4) 10).toInt < 10 := below_ir (vShr x 4) (n := 10) (by decide) (by decide)
  have a4 : 0 ≤ (vBelow (vShr x 2) 4).toInt ∧ (vBelow (vShr x 2) 4).toInt < 4 := below_ir (vShr x 2) (n := 4) (by decide) (by decide)
  have a5 : 0 ≤ (vBelow (vShr x 5) 101).toInt ∧ (vBelow (vShr x 5) 101).toInt < 101 := below_ir (vShr x 5) (n := 101) (by decide) (by decide)
  refine ⟨?_, ?_, ?_, ?_, ?_⟩
  · show IR (-20) 20 (vBelow (vShr x 3) 31 - 18)
    generalize vBelow (vShr x 3) 31 = v at a0
    have n18 : (18 : Int32).toInt = 18 := rfl
    have s := ir_sub (x := v) (y := 18) (by omega) (by omega)
    exact ⟨by omega, by omega⟩
  · show IR 0 9 (if vBelow (vShr x 6) 2 = 0 then 0 else vBelow (vShr x 5) 10)
    split
    · exact ⟨by decide, by decide⟩
    · exact ⟨a1.1, by have := a1.2; omega⟩
  · show IR 0 9 (if 0 < vBelow (vShr x 7) 3 then vBelow (vShr x 4) 5 else vBelow (vShr x 4) 10)
    split
    · exact ⟨a2.1, by have := a2.2; omega⟩
    · exact ⟨a3.1, by have := a3.2; omega⟩
  · show IR 0 3 (vBelow (vShr x 2) 4)
    exact ⟨a4.1, by have := a4.2; omega⟩
  · show IR 0 100 (vBelow (vShr x 5) 101)
    exact ⟨a5.1, by have := a5.2; omega⟩
def wBy (x : Int32) : Nat → Int32 := wW (vWby x 0) (vWby x 1) (vWby x 2) (vWby x 3) (vWby x 4)
theorem wBy_IW (x : Int32) : IW (wBy x) := by
  obtain ⟨a, b, c, d, e⟩ := vWby_IW x
  exact ⟨a, b, c, d, e⟩
theorem ir_le {a b : Int32} (h : a.toInt ≤ b.toInt) : a ≤ b := Int32.le_iff_toInt_le.mpr h
set_option maxHeartbeats 100000 in
theorem rSum_g {rs : Nat → rV} : ∀ {n : Nat}, n ≤ 8 → (∀ i, i < n → IR 0 9 ((rs i).2 6)) → (rSum (fun i => (rs i).2 6) n).toInt = gSum rs n ∧ 0 ≤ gSum rs n ∧ gSum rs n ≤ 9 * (n : Int)
  | 0, _, _ => ⟨rfl, Int.le_refl 0, Int.le_refl 0⟩
  | n + 1, h8, h => by
    obtain ⟨a, b, c⟩ := rSum_g (rs := rs) (n := n) (by omega) (fun i hi => h i (by omega))
    have q := h n (by omega)
    unfold IR at q
    show (rSum (fun i => (rs i).2 6) n + (rs n).2 6).toInt = gSum rs n + ((rs n).2 6).toInt ∧ 0 ≤ gSum rs n + ((rs n).2 6).toInt ∧ gSum rs n + ((rs n).2 6).toInt ≤ 9 * ((n + 1 : Nat) : Int)
    rw [ir_add (by omega) (by omega), a]
    omega
theorem LPn.eq {K K1 : Nat → mj_K} {g g1 : Nat → Nat → Option Nat} {x m : Nat} (h : LPn K g x m) (he : ∀ a, a = x ∨ (m ≤ a ∧ a < m + 142) → K1 a = K a ∧ g1 a = g a) : LPn K1 g1 x m := by
  obtain ⟨a, b, c, d, e, f, p, q, r, s⟩ := h
  obtain ⟨ex, gx⟩ := he x (Or.inl rfl)
  exact ⟨ex.trans a, b, by rw [gx]; exact c, by rw [gx]; exact d, by rw [gx]; exact e, by rw [gx]; exact f, p.eq (fun a h1 h2 => he a (Or.inr ⟨by omega, by omega⟩)), q.eq (fun a h1 h2 => he a (Or.inr ⟨by omega, by omega⟩)), r.eq (fun a h1 h2 => he a (Or.inr ⟨by omega, by omega⟩)), (he (m + 141) (Or.inr ⟨by omega, by omega⟩)).1.trans s⟩
set_option maxHeartbeats 200000 in
theorem LJ.new {lc rc L T n n1 : Nat} {K K1 : Nat → mj_K} {f f1 : Nat → Nat → Int32} {g g1 : Nat → Nat → Option Nat} {y : mV} {v5 v6 v7 v9 v10 : Int32} (h : LJ lc rc L T n K f g y v5 v6 v7 v9 v10) (hn : n ≤ n1) (hK : ∀ a, a < n → K1 a = K a ∧ g1 a = g a) (hF : mj_Fr n n1 f f1) : LJ lc rc L T n1 K1 f1 g1 y v5 v6 v7 v9 v10 := by
  obtain ⟨a, b, c, d, e, hi1, hj1, k, l, m, o, p, q, r, s, t, u, v⟩ := h
  have a4 : f1 144 = f 144 := hF 144 (Or.inl (by omega))
  have a5 : f1 145 = f 145 := hF 145 (Or.inl (by omega))
  refine ⟨by omega, (hK 0 (by omega)).1.trans b, c, d.eq (fun a ha => hK a (by omega)), e.keep hF (Or.inl (by omega)), hi1, hj1, k, l, (hK 144 (by omega)).1.trans m, (hK 145 (by omega)).1.trans o, by rw [a4]; exact p, q, r, s, fun k hk => by rw [a5]; exact t k hk, u, v⟩
set_option maxHeartbeats 200000 in
theorem LJ.hour {lc rc L T n : Nat} {K : Nat → mj_K} {f f1 : Nat → Nat → Int32} {g : Nat → Nat → Option Nat} {y z : mV} {W : Nat → Int32} {v5 v6 v7 v9 v10 : Int32} (h : LJ lc rc L T n K f g y v5 v6 v7 v9 v10) (hY : JY (f 144) z (T + 1)) (hH : HF W y z) (hN : MN f1 2 z) (hF : mj_Fr 2 144 f f1) : LJ lc rc L (T + 1) n K f1 g z v5 v6 v7 v9 (z.2.2.1 14 + z.2.2.1 15) := by
  obtain ⟨a, b, c, d, e, hi1, hj1, k, l, m, o, p, ⟨q1, q2, q3, q4⟩, ⟨r1, r2, r3, r4⟩, s, t, u, v⟩ := h
  obtain ⟨f1a, f2a, f4, ⟨f7, f8, f9⟩, -, -, -, fr, -, -⟩ := hH
  have a4 : f1 144 = f 144 := hF 144 (Or.inr (by decide))
  have a5 : f1 145 = f 145 := hF 145 (Or.inr (by decide))
  have g6 : ∀ i, i < rc → (z.2.2.2.2 i).2 6 = (y.2.2.2.2 i).2 6 := fun i hi => (fr i (by rw [hj1]; exact hi)).1 6 (by decide) (by decide) (by decide) (by decide) (by decide) (by decide) (by decide)
  refine ⟨a, b, c, d, hN, f1a.trans hi1, f2a.trans hj1, k, l, m, o, by rw [a4]; exact hY, ⟨q1, q2, q3, f7.trans q4⟩, ⟨r1, r2, r3, f8.trans r4⟩, s.trans (rSum_congr (fun i hi => (g6 i hi).symm)), fun k hk => ?_, u.trans f9.symm, rfl⟩
  rw [a5, t k hk, g6 k hk]
theorem cl_lo {c : Int32} (h : c ≤ 8) : ¬ (9 ≤ c ∧ c ≤ 16) := by
  rintro ⟨a, -⟩
  have a := Int32.le_iff_toInt_le.mp a
  have h := Int32.le_iff_toInt_le.mp h
  have n8 : (8 : Int32).toInt = 8 := rfl
  have n9 : (9 : Int32).toInt = 9 := rfl
  omega
theorem cl_hi {c : Int32} (h : 17 ≤ c) : ¬ (9 ≤ c ∧ c ≤ 16) := by
  rintro ⟨-, a⟩
  have a := Int32.le_iff_toInt_le.mp a
  have h := Int32.le_iff_toInt_le.mp h
  have n16 : (16 : Int32).toInt = 16 := rfl
  have n17 : (17 : Int32).toInt = 17 := rfl
  omega
theorem cl_in {c : Int32} (h1 : ¬ c ≤ 8) (h2 : ¬ 17 ≤ c) : 9 ≤ c ∧ c ≤ 16 := by
  have h1 : ¬ c.toInt ≤ (8 : Int32).toInt := fun z => h1 (Int32.le_iff_toInt_le.mpr z)
  have h2 : ¬ (17 : Int32).toInt ≤ c.toInt := fun z => h2 (Int32.le_iff_toInt_le.mpr z)
  have n8 : (8 : Int32).toInt = 8 := rfl
  have n9 : (9 : Int32).toInt = 9 := rfl
  have n16 : (16 : Int32).toInt = 16 := rfl
  have n17 : (17 : Int32).toInt = 17 := rfl
  exact ⟨ir_le (by omega), ir_le (by omega)⟩
/-- what the law checks behind an hour, in numbers -/
def LQ (y z : mV) (tt : Nat) (v7 : Int32) : Prop := vMany z 8 = vMany y 8 + nI tt ∧ ¬ nI y.2.1 < nI tt ∧ ¬ vMany z 10 < vMany y 10 ∧ ¬ vMany y 10 + nI tt < vMany z 10 ∧ ¬ vMany z 11 < vMany y 11 ∧ ¬ vMany y 4 < vMany z 4 ∧ ¬ vMany z 4 < vMany y 4 - 5 * v7 ∧ (vMany y 4 - vMany z 4) % 5 = 0
set_option maxHeartbeats 200000 in
theorem HF.checks {F W : Nat → Int32} {y z : mV} {B : Nat} {v7 : Int32} (h : JY F y B) (hB : B ≤ 1000) (hH : HF W y z) (h7 : v7 = rSum (fun i => (y.2.2.2.2 i).2 6) y.2.1) (hz6 : 0 ≤ (z.2.2.1 6).toInt) : ∃ tt : Nat, LQ y z tt v7 := by
  obtain ⟨j1, j2, j3, j4, j5, j6, j7, j8, j9, ⟨j10, j11, j12, j13, j14⟩, j15, j16, ⟨j17, j18⟩, j19⟩ := h
  obtain ⟨f1a, f2a, f4, -, ⟨t, b, t1, t2, t10, t12⟩, f13, ⟨j, g0, g1, g6⟩, -, -, -⟩ := hH
  have sg := rSum_g (rs := y.2.2.2.2) (n := y.2.1) j2 (fun i hi => (j3 i hi).1.2.2.2.2.1)
  rw [← h7] at sg
  obtain ⟨s1, s2, s3⟩ := sg
  generalize gSum y.2.2.2.2 y.2.1 = G at g1 s1 s2 s3
  have nt := nI_toInt (n := t) (by omega)
  have nb := nI_toInt (n := b) (by omega)
  have a12 := ir_add (x := y.2.2.1 12) (y := nI b) (by omega) (by omega)
  have b12 := ir_add (x := y.2.2.1 12) (y := nI t) (by omega) (by omega)
  rw [← t12] at a12
  unfold IR at j5
  have n5 : (5 : Int32).toInt = 5 := rfl
  have m7 := ir_mul (x := 5) (y := v7) (by rw [n5]; omega) (by rw [n5]; omega)
  rw [n5] at m7
  have s7 := ir_sub (x := y.2.2.1 6) (y := 5 * v7) (by omega) (by omega)
  have s6 := ir_sub (x := y.2.2.1 6) (y := z.2.2.1 6) (by omega) (by omega)
  have d6 := ir_mod (a := y.2.2.1 6 - z.2.2.1 6) (b := 5) (by omega)
  refine ⟨t, t10, fun q => ?_, fun q => ?_, fun q => ?_, fun q => ?_, fun q => ?_, fun q => ?_, ?_⟩
  · have q := Int32.lt_iff_toInt_lt.mp q
    rw [nI_toInt (by omega), nt] at q
    omega
  · have q : (z.2.2.1 12).toInt < (y.2.2.1 12).toInt := Int32.lt_iff_toInt_lt.mp q
    omega
  · have q : (y.2.2.1 12 + nI t).toInt < (z.2.2.1 12).toInt := Int32.lt_iff_toInt_lt.mp q
    omega
  · have q : (z.2.2.1 13).toInt < (y.2.2.1 13).toInt := Int32.lt_iff_toInt_lt.mp q
    omega
  · have q : (y.2.2.1 6).toInt < (z.2.2.1 6).toInt := Int32.lt_iff_toInt_lt.mp q
    omega
  · have q : (z.2.2.1 6).toInt < (y.2.2.1 6 - 5 * v7).toInt := Int32.lt_iff_toInt_lt.mp q
    omega
  · apply Int32.toInt_inj.mp
    show ((y.2.2.1 6 - z.2.2.1 6) % 5).toInt = 0
    rw [d6, s6, n5, g6]
    omega
set_option maxHeartbeats 400000 in
set_option maxRecDepth 100000 in
theorem lh_slid {d lc rc w hh t mc ms s : Nat} {n : Nat} {K : Nat → mj_K} {f : Nat → Nat → Int32} {g : Nat → Nat → Option Nat} {y : mV} {v5 v6 v7 v9 v10 v11 vx v19 v20 v21 v22 : Int32} {w13 w14 w15 w25 w26 : Value} {Q : mj_Q} (hP : LPn K g 1 2) (hN : MN f 2 y) (hrc : y.2.1 = rc) (hs : 49 ≤ s) (hK : K s = (0, rc, 0)) (hrc8 : rc ≤ 8) (k : ∀ f1, mj_Fr s (s + 1) f f1 → (∀ a, a < rc → f1 s a = (y.2.2.2.2 a).2 9) → mj_W m_law (d + 8) mc ms Q 1125 [.ref 0, .ref 1, .int (nI lc), .int (nI rc), .ref 144, .int v5, .int v6, .int v7, .ref 145, .int v9, .int v10, .int v11, .int vx, w13, w14, w15, .ref w, .int (nI hh), .int (nI t), .int v19, .int v20, .int v21, .int v22, .ref s, .int (nI rc), w25, w26] [] (n, K, f1, g)) : ∀ (j i : Nat) (f1 : Nat → Nat → Int32), i + j = rc → mj_Fr s (s + 1) f f1 → (∀ a, a < i → f1 s a = (y.2.2.2.2 a).2 9) → mj_W m_law (d + 8) mc ms Q 1100 [.ref 0, .ref 1, .int (nI lc), .int (nI rc), .ref 144, .int v5, .int v6, .int v7, .ref 145, .int v9, .int v10, .int v11, .int vx, w13, w14, w15, .ref w, .int (nI hh), .int (nI t), .int v19, .int v20, .int v21, .int v22, .ref s, .int (nI i), w25, w26] [] (n, K, f1, g) := by
  have kx := hP.1
  intro j
  induction j with
  | zero =>
    intro i f1 hij hFr hsl
    have hi : rc = i := by omega
    subst hi
    refine mj_iload (i := 24) (q := 1102) dL_law_1100 rfl rfl ?_
    refine mj_iload_n (i := 3) (q := 1103) dL_law_1102 rfl rfl rfl ?_
    refine mj_icmp_ge (tgt := 1125) (q := 1106) dL_law_1103 (by decide) rfl (fun c_1103 => ?_) (fun c_1103 => absurd (nI_le (a := rc) (b := rc) (Nat.le_refl _) (by omega)) c_1103)
    exact k f1 hFr hsl
  | succ j ih =>
    intro i f1 hij hFr hsl
    have hi : i < rc := by omega
    have hN1 : MN f1 2 y := hN.keep hFr (Or.inl (by omega))
    have hin : i < rc ∧ rc ≤ 1000 := ⟨hi, by omega⟩
    refine mj_iload (i := 24) (q := 1102) dL_law_1100 rfl rfl ?_
    refine mj_iload_n (i := 3) (q := 1103) dL_law_1102 rfl rfl rfl ?_
    refine mj_icmp_ge (tgt := 1125) (q := 1106) dL_law_1103 (by decide) rfl (fun c_1103 => absurd c_1103 (nI_ge (a := i) (b := rc) hi (by omega))) (fun c_1103 => ?_)
    refine mj_aload (i := 23) (q := 1108) dL_law_1106 rfl rfl ?_
    refine mj_iload (i := 24) (q := 1110) dL_law_1108 rfl rfl ?_
    refine mj_aload_n (i := 1) (q := 1111) dL_law_1110 rfl rfl rfl ?_
    refine mj_iload (i := 24) (q := 1113) dL_law_1111 rfl rfl ?_
    refine mj_num2 (v := nI 12) (q := 1115) (by decide) dL_law_1113 rfl ?_
    refine mj_cV2i (K := m_X5_ofRun) (q := 1118) dL_law_1115 ln_L_33 ok_X5_ofRun (Nat.le_of_ble_eq_true rfl) (by decide) (by assumption) rfl rfl (s_ofRun hP hN1 (by omega) (by decide)) (fun r_1115 h1 hq => ?_)
    obtain ⟨rfl, rfl⟩ := hq
    refine mj_iastn (q := 1119) dL_law_1118 rfl (by assumption) hin ?_
    refine mj_iinc (i := 24) (q := 1122) dL_law_1119 rfl rfl (by decide) rfl ?_
    dsimp only [List.set]
    refine mj_goto (q := 1100) dL_law_1122 (by decide) ?_
    rw [show nI i + Int32.ofInt 1 = nI (i + 1) from nI_1 i]
    refine ih (i + 1) _ (by omega) (hFr.up (by omega) (by omega)) (fun a ha => ?_)
    by_cases e : a = i
    · subst e; exact mj_upe
    · unfold mj_up
      rw [if_neg (fun z => e z.2)]
      exact hsl a (by omega)
set_option maxHeartbeats 400000 in
set_option maxRecDepth 100000 in
theorem lh_pass {d lc rc w hh t mc ms s : Nat} {n : Nat} {K : Nat → mj_K} {f : Nat → Nat → Int32} {g : Nat → Nat → Option Nat} {y : mV} {v5 v6 v7 v9 v10 v11 vx v19 v20 v21 v22 : Int32} {w13 w14 w15 w24 w25 w26 : Value} {Q : mj_Q} {z : mV} {tt : Nat} (hP : LPn K g 1 2) (hN : MN f 2 y) (hKw : K w = (0, 5, 0)) (hfw : ∀ k, k < 5 → f w k = vWby vx k) (h40 : 0 ≤ (y.2.2.1 4).toInt) (h41 : (y.2.2.1 4).toInt ≤ 1000) (hz : vHour (wBy vx) y = z) (ht : z.2.2.1 10 = y.2.2.1 10 + nI tt) (h4z : z.2.2.1 4 = y.2.2.1 4 + 1) (k : ∀ f1, MN f1 2 z → mj_Fr 2 144 f f1 → mj_W m_law (d + 8) mc ms Q 1144 [.ref 0, .ref 1, .int (nI lc), .int (nI rc), .ref 144, .int v5, .int v6, .int v7, .ref 145, .int v9, .int v10, .int v11, .int vx, w13, w14, w15, .ref w, .int (nI hh), .int (nI t), .int v19, .int v20, .int v21, .int v22, .ref s, .int (nI tt), .int ((y.2.2.1 4 + 1) % 24), w26] [] (n, K, f1, g)) : mj_W m_law (d + 8) mc ms Q 1125 [.ref 0, .ref 1, .int (nI lc), .int (nI rc), .ref 144, .int v5, .int v6, .int v7, .ref 145, .int v9, .int v10, .int v11, .int vx, w13, w14, w15, .ref w, .int (nI hh), .int (nI t), .int v19, .int v20, .int v21, .int v22, .ref s, w24, w25, w26] [] (n, K, f, g) := by
  have kx := hP.1
  obtain ⟨⟨a1, a2⟩, ⟨b1, b2⟩, ⟨c1, c2⟩, ⟨d1, d2⟩, ⟨e1, e2⟩⟩ := vWby_IW vx
  have hlate : y.2.2.1 4 + nI 1 ≤ 9999 := by
    have n1 : (nI 1).toInt = 1 := rfl
    have n9 : (9999 : Int32).toInt = 9999 := rfl
    have s := ir_add (x := y.2.2.1 4) (y := nI 1) (by omega) (by omega)
    exact ir_le (by omega)
  have er : z.2.2.1 10 - y.2.2.1 10 = nI tt := by rw [ht, i32_sub_l]
  refine mj_aload_n (i := 1) (q := 1126) dL_law_1125 rfl rfl rfl ?_
  refine mj_num1 (v := nI 1) (q := 1127) (by decide) dL_law_1126 rfl ?_
  refine mj_aload (i := 16) (q := 1129) dL_law_1127 rfl rfl ?_
  refine mj_cS3i (K := m_L_pass) (q := 1132) dL_law_1129 ln_L_94 ok_L_pass (Nat.le_of_ble_eq_true rfl) (by decide) rfl (s_lpass hP hN hKw (hfw 0 (by decide)) (hfw 1 (by decide)) (hfw 2 (by decide)) (hfw 3 (by decide)) (hfw 4 (by decide)) (Nat.le_refl 1) (by decide) (ir_le a1) (ir_le a2) (ir_le b1) (ir_le b2) (ir_le c1) (ir_le c2) (ir_le d1) (ir_le d2) (ir_le e1) (ir_le e2) hlate) (fun r_1129 h1 hq => ?_)
  obtain ⟨rfl, f1, rfl, hN1, hFr⟩ := hq
  have ez : vIter (wW (vWby vx 0) (vWby vx 1) (vWby vx 2) (vWby vx 3) (vWby vx 4)) 1 y = z := hz
  rw [ez, er]
  rw [ez] at hN1
  refine mj_istore (i := 24) (q := 1134) dL_law_1132 rfl (by decide) rfl ?_
  dsimp only [List.set]
  refine mj_aload_n (i := 1) (q := 1135) dL_law_1134 rfl rfl rfl ?_
  refine mj_num1 (v := nI 0) (q := 1136) (by decide) dL_law_1135 rfl ?_
  refine mj_cV1i (K := m_X5_many) (q := 1139) dL_law_1136 ln_L_46 ok_X5_many (Nat.le_of_ble_eq_true rfl) (by decide) (by assumption) rfl rfl (s_many hP hN1 (by decide)) (fun r_1136 h1 hq => ?_)
  obtain ⟨rfl, rfl⟩ := hq
  rw [show vMany z 0 = y.2.2.1 4 + 1 from h4z]
  refine mj_num2 (v := 24) (q := 1141) (by decide) dL_law_1139 rfl ?_
  refine mj_irem (q := 1142) (by decide) dL_law_1141 rfl ?_
  refine mj_istore (i := 25) (q := 1144) dL_law_1142 rfl (by decide) rfl ?_
  dsimp only [List.set]
  exact k f1 hN1 hFr
set_option maxHeartbeats 400000 in
set_option maxRecDepth 100000 in
theorem lh_clock {d lc rc w hh t mc ms s : Nat} {v5 v6 v7 v9 v10 v11 vx v19 v20 v21 v22 v24 c zz : Int32} {w13 w14 w15 w26 : Value} {Q : mj_Q} {h : mj_H} (hz : zz = v10 + (if 9 ≤ c ∧ c ≤ 16 then v9 else 0)) (k : mj_W m_law (d + 8) mc ms Q 1169 [.ref 0, .ref 1, .int (nI lc), .int (nI rc), .ref 144, .int v5, .int v6, .int v7, .ref 145, .int v9, .int zz, .int v11, .int vx, w13, w14, w15, .ref w, .int (nI hh), .int (nI t), .int v19, .int v20, .int v21, .int v22, .ref s, .int v24, .int c, w26] [] h) : mj_W m_law (d + 8) mc ms Q 1144 [.ref 0, .ref 1, .int (nI lc), .int (nI rc), .ref 144, .int v5, .int v6, .int v7, .ref 145, .int v9, .int v10, .int v11, .int vx, w13, w14, w15, .ref w, .int (nI hh), .int (nI t), .int v19, .int v20, .int v21, .int v22, .ref s, .int v24, .int c, w26] [] h := by
  have k1167 : mj_W m_law (d + 8) mc ms Q 1167 [.ref 0, .ref 1, .int (nI lc), .int (nI rc), .ref 144, .int v5, .int v6, .int v7, .ref 145, .int v9, .int v10, .int v11, .int vx, w13, w14, w15, .ref w, .int (nI hh), .int (nI t), .int v19, .int v20, .int v21, .int v22, .ref s, .int v24, .int c, w26] [.int zz] h := by
    refine mj_istore (i := 10) (q := 1169) dL_law_1167 rfl (by decide) rfl ?_
    dsimp only [List.set]
    exact k
  refine mj_iload (i := 10) (q := 1146) dL_law_1144 rfl rfl ?_
  refine mj_iload (i := 25) (q := 1148) dL_law_1146 rfl rfl ?_
  refine mj_num2 (v := 8) (q := 1150) (by decide) dL_law_1148 rfl ?_
  refine mj_icmp_le (tgt := 1165) (q := 1153) dL_law_1150 (by decide) rfl (fun c_1150 => ?_) (fun c_1150 => ?_)
  · refine mj_num1 (v := 0) (q := 1166) rfl dL_law_1165 rfl ?_
    refine mj_iadd (q := 1167) dL_law_1166 rfl ?_
    rw [show v10 + 0 = zz from by rw [hz, if_neg (cl_lo c_1150)]]
    exact k1167
  · refine mj_iload (i := 25) (q := 1155) dL_law_1153 rfl rfl ?_
    refine mj_num2 (v := 17) (q := 1157) (by decide) dL_law_1155 rfl ?_
    refine mj_icmp_ge (tgt := 1165) (q := 1160) dL_law_1157 (by decide) rfl (fun c_1157 => ?_) (fun c_1157 => ?_)
    · refine mj_num1 (v := 0) (q := 1166) rfl dL_law_1165 rfl ?_
      refine mj_iadd (q := 1167) dL_law_1166 rfl ?_
      rw [show v10 + 0 = zz from by rw [hz, if_neg (cl_hi c_1157)]]
      exact k1167
    · refine mj_iload (i := 9) (q := 1162) dL_law_1160 rfl rfl ?_
      refine mj_goto (q := 1166) dL_law_1162 (by decide) ?_
      refine mj_iadd (q := 1167) dL_law_1166 rfl ?_
      rw [show v10 + v9 = zz from by rw [hz, if_pos (cl_in c_1150 c_1157)]]
      exact k1167
set_option maxHeartbeats 400000 in
set_option maxRecDepth 100000 in
theorem lh_checks {d lc rc w hh t mc ms s : Nat} {n : Nat} {K : Nat → mj_K} {f : Nat → Nat → Int32} {g : Nat → Nat → Option Nat} {y : mV} {v5 v6 v7 v9 v10 v11 vx : Int32} {w13 w14 w15 w26 : Value} {Q : mj_Q} {z : mV} {tt : Nat} {v25 : Int32} (hP : LPn K g 1 2) (hN : MN f 2 z) (hrc : y.2.1 = rc) (hq : LQ y z tt v7) (k : mj_W m_law (d + 8) mc ms Q 1265 [.ref 0, .ref 1, .int (nI lc), .int (nI rc), .ref 144, .int v5, .int v6, .int v7, .ref 145, .int v9, .int v10, .int v11, .int vx, w13, w14, w15, .ref w, .int (nI hh), .int (nI t), .int (vMany y 4), .int (vMany y 8), .int (vMany y 10), .int (vMany y 11), .ref s, .int (nI tt), .int v25, w26] [] (n, K, f, g)) : mj_W m_law (d + 8) mc ms Q 1169 [.ref 0, .ref 1, .int (nI lc), .int (nI rc), .ref 144, .int v5, .int v6, .int v7, .ref 145, .int v9, .int v10, .int v11, .int vx, w13, w14, w15, .ref w, .int (nI hh), .int (nI t), .int (vMany y 4), .int (vMany y 8), .int (vMany y 10), .int (vMany y 11), .ref s, .int (nI tt), .int v25, w26] [] (n, K, f, g) := by
  have kx := hP.1
  obtain ⟨c1, c2, c3, c4, c5, c6, c7, c8⟩ := hq
  rw [hrc] at c2
  refine mj_aload_n (i := 1) (q := 1170) dL_law_1169 rfl rfl rfl ?_
  refine mj_num2 (v := nI 8) (q := 1172) (by decide) dL_law_1170 rfl ?_
  refine mj_cV1i (K := m_X5_many) (q := 1175) dL_law_1172 ln_L_46 ok_X5_many (Nat.le_of_ble_eq_true rfl) (by decide) (by assumption) rfl rfl (s_many hP hN (by decide)) (fun r_1172 h1 hq => ?_)
  obtain ⟨rfl, rfl⟩ := hq
  refine mj_iload (i := 20) (q := 1177) dL_law_1175 rfl rfl ?_
  refine mj_iload (i := 24) (q := 1179) dL_law_1177 rfl rfl ?_
  refine mj_iadd (q := 1180) dL_law_1179 rfl ?_
  refine mj_icmp_ne (tgt := 1263) (q := 1183) dL_law_1180 (by decide) rfl (fun c_1180 => absurd c1 c_1180) (fun c_1180 => ?_)
  refine mj_iload (i := 24) (q := 1185) dL_law_1183 rfl rfl ?_
  refine mj_iload_n (i := 3) (q := 1186) dL_law_1185 rfl rfl rfl ?_
  refine mj_icmp_gt (tgt := 1263) (q := 1189) dL_law_1186 (by decide) rfl (fun c_1186 => absurd c_1186 c2) (fun c_1186 => ?_)
  refine mj_aload_n (i := 1) (q := 1190) dL_law_1189 rfl rfl rfl ?_
  refine mj_num2 (v := nI 10) (q := 1192) (by decide) dL_law_1190 rfl ?_
  refine mj_cV1i (K := m_X5_many) (q := 1195) dL_law_1192 ln_L_46 ok_X5_many (Nat.le_of_ble_eq_true rfl) (by decide) (by assumption) rfl rfl (s_many hP hN (by decide)) (fun r_1192 h1 hq => ?_)
  obtain ⟨rfl, rfl⟩ := hq
  refine mj_iload (i := 21) (q := 1197) dL_law_1195 rfl rfl ?_
  refine mj_icmp_lt (tgt := 1263) (q := 1200) dL_law_1197 (by decide) rfl (fun c_1197 => absurd c_1197 c3) (fun c_1197 => ?_)
  refine mj_aload_n (i := 1) (q := 1201) dL_law_1200 rfl rfl rfl ?_
  refine mj_num2 (v := nI 10) (q := 1203) (by decide) dL_law_1201 rfl ?_
  refine mj_cV1i (K := m_X5_many) (q := 1206) dL_law_1203 ln_L_46 ok_X5_many (Nat.le_of_ble_eq_true rfl) (by decide) (by assumption) rfl rfl (s_many hP hN (by decide)) (fun r_1203 h1 hq => ?_)
  obtain ⟨rfl, rfl⟩ := hq
  refine mj_iload (i := 21) (q := 1208) dL_law_1206 rfl rfl ?_
  refine mj_iload (i := 24) (q := 1210) dL_law_1208 rfl rfl ?_
  refine mj_iadd (q := 1211) dL_law_1210 rfl ?_
  refine mj_icmp_gt (tgt := 1263) (q := 1214) dL_law_1211 (by decide) rfl (fun c_1211 => absurd c_1211 c4) (fun c_1211 => ?_)
  refine mj_aload_n (i := 1) (q := 1215) dL_law_1214 rfl rfl rfl ?_
  refine mj_num2 (v := nI 11) (q := 1217) (by decide) dL_law_1215 rfl ?_
  refine mj_cV1i (K := m_X5_many) (q := 1220) dL_law_1217 ln_L_46 ok_X5_many (Nat.le_of_ble_eq_true rfl) (by decide) (by assumption) rfl rfl (s_many hP hN (by decide)) (fun r_1217 h1 hq => ?_)
  obtain ⟨rfl, rfl⟩ := hq
  refine mj_iload (i := 22) (q := 1222) dL_law_1220 rfl rfl ?_
  refine mj_icmp_lt (tgt := 1263) (q := 1225) dL_law_1222 (by decide) rfl (fun c_1222 => absurd c_1222 c5) (fun c_1222 => ?_)
  refine mj_aload_n (i := 1) (q := 1226) dL_law_1225 rfl rfl rfl ?_
  refine mj_num1 (v := nI 4) (q := 1227) (by decide) dL_law_1226 rfl ?_
  refine mj_cV1i (K := m_X5_many) (q := 1230) dL_law_1227 ln_L_46 ok_X5_many (Nat.le_of_ble_eq_true rfl) (by decide) (by assumption) rfl rfl (s_many hP hN (by decide)) (fun r_1227 h1 hq => ?_)
  obtain ⟨rfl, rfl⟩ := hq
  refine mj_iload (i := 19) (q := 1232) dL_law_1230 rfl rfl ?_
  refine mj_icmp_gt (tgt := 1263) (q := 1235) dL_law_1232 (by decide) rfl (fun c_1232 => absurd c_1232 c6) (fun c_1232 => ?_)
  refine mj_aload_n (i := 1) (q := 1236) dL_law_1235 rfl rfl rfl ?_
  refine mj_num1 (v := nI 4) (q := 1237) (by decide) dL_law_1236 rfl ?_
  refine mj_cV1i (K := m_X5_many) (q := 1240) dL_law_1237 ln_L_46 ok_X5_many (Nat.le_of_ble_eq_true rfl) (by decide) (by assumption) rfl rfl (s_many hP hN (by decide)) (fun r_1237 h1 hq => ?_)
  obtain ⟨rfl, rfl⟩ := hq
  refine mj_iload (i := 19) (q := 1242) dL_law_1240 rfl rfl ?_
  refine mj_num1 (v := 5) (q := 1243) rfl dL_law_1242 rfl ?_
  refine mj_iload (i := 7) (q := 1245) dL_law_1243 rfl rfl ?_
  refine mj_imul (q := 1246) dL_law_1245 rfl ?_
  refine mj_isub (q := 1247) dL_law_1246 rfl ?_
  refine mj_icmp_lt (tgt := 1263) (q := 1250) dL_law_1247 (by decide) rfl (fun c_1247 => absurd c_1247 c7) (fun c_1247 => ?_)
  refine mj_iload (i := 19) (q := 1252) dL_law_1250 rfl rfl ?_
  refine mj_aload_n (i := 1) (q := 1253) dL_law_1252 rfl rfl rfl ?_
  refine mj_num1 (v := nI 4) (q := 1254) (by decide) dL_law_1253 rfl ?_
  refine mj_cV1i (K := m_X5_many) (q := 1257) dL_law_1254 ln_L_46 ok_X5_many (Nat.le_of_ble_eq_true rfl) (by decide) (by assumption) rfl rfl (s_many hP hN (by decide)) (fun r_1254 h1 hq => ?_)
  obtain ⟨rfl, rfl⟩ := hq
  refine mj_isub (q := 1258) dL_law_1257 rfl ?_
  refine mj_num1 (v := 5) (q := 1259) rfl dL_law_1258 rfl ?_
  refine mj_irem (q := 1260) (by decide) dL_law_1259 rfl ?_
  refine mj_if_eq (tgt := 1265) (q := 1263) dL_law_1260 (by decide) rfl (fun c_1260 => ?_) (fun c_1260 => absurd c8 c_1260)
  exact k
set_option maxHeartbeats 400000 in
set_option maxRecDepth 100000 in
theorem lh_risks {d lc rc w hh t mc ms s : Nat} {n : Nat} {K : Nat → mj_K} {f : Nat → Nat → Int32} {g : Nat → Nat → Option Nat} {y : mV} {v5 v6 v7 v9 v10 v11 vx v19 v20 v21 v22 : Int32} {w13 w14 w15 : Value} {Q : mj_Q} {z : mV} {v24 v25 : Int32} (hP : LPn K g 1 2) (hN : MN f 2 z) (hrc : z.2.1 = rc) (hK : K s = (0, rc, 0)) (hrc8 : rc ≤ 8) (hr : ∀ i, i < rc → vOfRun z i 12 = f s i → vOfRun z i 4 < 100) (k : mj_W m_law (d + 8) mc ms Q 1310 [.ref 0, .ref 1, .int (nI lc), .int (nI rc), .ref 144, .int v5, .int v6, .int v7, .ref 145, .int v9, .int v10, .int v11, .int vx, w13, w14, w15, .ref w, .int (nI hh), .int (nI t), .int v19, .int v20, .int v21, .int v22, .ref s, .int v24, .int v25, .int (nI rc)] [] (n, K, f, g)) : ∀ (j i : Nat), i + j = rc → mj_W m_law (d + 8) mc ms Q 1268 [.ref 0, .ref 1, .int (nI lc), .int (nI rc), .ref 144, .int v5, .int v6, .int v7, .ref 145, .int v9, .int v10, .int v11, .int vx, w13, w14, w15, .ref w, .int (nI hh), .int (nI t), .int v19, .int v20, .int v21, .int v22, .ref s, .int v24, .int v25, .int (nI i)] [] (n, K, f, g) := by
  have kx := hP.1
  intro j
  induction j with
  | zero =>
    intro i hij
    have hi : rc = i := by omega
    subst hi
    refine mj_iload (i := 26) (q := 1270) dL_law_1268 rfl rfl ?_
    refine mj_iload_n (i := 3) (q := 1271) dL_law_1270 rfl rfl rfl ?_
    refine mj_icmp_ge (tgt := 1310) (q := 1274) dL_law_1271 (by decide) rfl (fun c_1271 => ?_) (fun c_1271 => absurd (nI_le (a := rc) (b := rc) (Nat.le_refl _) (by omega)) c_1271)
    exact k
  | succ j ih =>
    intro i hij
    have hi : i < rc := by omega
    have hin : i < rc ∧ rc ≤ 1000 := ⟨hi, by omega⟩
    have k1304 : mj_W m_law (d + 8) mc ms Q 1304 [.ref 0, .ref 1, .int (nI lc), .int (nI rc), .ref 144, .int v5, .int v6, .int v7, .ref 145, .int v9, .int v10, .int v11, .int vx, w13, w14, w15, .ref w, .int (nI hh), .int (nI t), .int v19, .int v20, .int v21, .int v22, .ref s, .int v24, .int v25, .int (nI i)] [] (n, K, f, g) := by
      refine mj_iinc (i := 26) (q := 1307) dL_law_1304 rfl rfl (by decide) rfl ?_
      dsimp only [List.set]
      refine mj_goto (q := 1268) dL_law_1307 (by decide) ?_
      rw [show nI i + Int32.ofInt 1 = nI (i + 1) from nI_1 i]
      exact ih (i + 1) (by omega)
    refine mj_iload (i := 26) (q := 1270) dL_law_1268 rfl rfl ?_
    refine mj_iload_n (i := 3) (q := 1271) dL_law_1270 rfl rfl rfl ?_
    refine mj_icmp_ge (tgt := 1310) (q := 1274) dL_law_1271 (by decide) rfl (fun c_1271 => absurd c_1271 (nI_ge (a := i) (b := rc) hi (by omega))) (fun c_1271 => ?_)
    refine mj_aload_n (i := 1) (q := 1275) dL_law_1274 rfl rfl rfl ?_
    refine mj_iload (i := 26) (q := 1277) dL_law_1275 rfl rfl ?_
    refine mj_num2 (v := nI 12) (q := 1279) (by decide) dL_law_1277 rfl ?_
    refine mj_cV2i (K := m_X5_ofRun) (q := 1282) dL_law_1279 ln_L_33 ok_X5_ofRun (Nat.le_of_ble_eq_true rfl) (by decide) (by assumption) rfl rfl (s_ofRun hP hN (by omega) (by decide)) (fun r_1279 h1 hq => ?_)
    obtain ⟨rfl, rfl⟩ := hq
    refine mj_aload (i := 23) (q := 1284) dL_law_1282 rfl rfl ?_
    refine mj_iload (i := 26) (q := 1286) dL_law_1284 rfl rfl ?_
    refine mj_ialdn (q := 1287) dL_law_1286 rfl (by assumption) hin ?_
    refine mj_icmp_ne (tgt := 1304) (q := 1290) dL_law_1287 (by decide) rfl (fun c_1287 => ?_) (fun c_1287 => ?_)
    · exact k1304
    · refine mj_aload_n (i := 1) (q := 1291) dL_law_1290 rfl rfl rfl ?_
      refine mj_iload (i := 26) (q := 1293) dL_law_1291 rfl rfl ?_
      refine mj_num1 (v := nI 4) (q := 1294) (by decide) dL_law_1293 rfl ?_
      refine mj_cV2i (K := m_X5_ofRun) (q := 1297) dL_law_1294 ln_L_33 ok_X5_ofRun (Nat.le_of_ble_eq_true rfl) (by decide) (by assumption) rfl rfl (s_ofRun hP hN (by omega) (by decide)) (fun r_1294 h1 hq => ?_)
      obtain ⟨rfl, rfl⟩ := hq
      refine mj_num2 (v := 100) (q := 1299) (by decide) dL_law_1297 rfl ?_
      refine mj_icmp_lt (tgt := 1304) (q := 1302) dL_law_1299 (by decide) rfl (fun c_1299 => ?_) (fun c_1299 => absurd (hr i hi c_1287) c_1299)
      exact k1304
set_option maxHeartbeats 400000 in
set_option maxRecDepth 100000 in
theorem lh_lifts {d lc rc w hh t mc ms s : Nat} {n : Nat} {K : Nat → mj_K} {f : Nat → Nat → Int32} {g : Nat → Nat → Option Nat} {y : mV} {v5 v6 v7 v9 v10 v11 vx v19 v20 v21 v22 : Int32} {w13 w14 w15 : Value} {Q : mj_Q} {z : mV} {v24 v25 : Int32} (hP : LPn K g 1 2) (hN : MN f 2 z) (hlc : z.1 = lc) (hK : K w = (0, 5, 0)) (hlc4 : lc ≤ 4) (hr : ∀ i, i < lc → vOfLift z i 1 < f w 2 → vOfLift z i 3 = 1) (k : mj_W m_law (d + 8) mc ms Q 1352 [.ref 0, .ref 1, .int (nI lc), .int (nI rc), .ref 144, .int v5, .int v6, .int v7, .ref 145, .int v9, .int v10, .int v11, .int vx, w13, w14, w15, .ref w, .int (nI hh), .int (nI t), .int v19, .int v20, .int v21, .int v22, .ref s, .int v24, .int v25, .int (nI lc)] [] (n, K, f, g)) : ∀ (j i : Nat), i + j = lc → mj_W m_law (d + 8) mc ms Q 1313 [.ref 0, .ref 1, .int (nI lc), .int (nI rc), .ref 144, .int v5, .int v6, .int v7, .ref 145, .int v9, .int v10, .int v11, .int vx, w13, w14, w15, .ref w, .int (nI hh), .int (nI t), .int v19, .int v20, .int v21, .int v22, .ref s, .int v24, .int v25, .int (nI i)] [] (n, K, f, g) := by
  have kx := hP.1
  have h2 : 2 < 5 ∧ 5 ≤ 1000 := ⟨by decide, by decide⟩
  intro j
  induction j with
  | zero =>
    intro i hij
    have hi : lc = i := by omega
    subst hi
    refine mj_iload (i := 26) (q := 1315) dL_law_1313 rfl rfl ?_
    refine mj_iload_n (i := 2) (q := 1316) dL_law_1315 rfl rfl rfl ?_
    refine mj_icmp_ge (tgt := 1352) (q := 1319) dL_law_1316 (by decide) rfl (fun c_1316 => ?_) (fun c_1316 => absurd (nI_le (a := lc) (b := lc) (Nat.le_refl _) (by omega)) c_1316)
    exact k
  | succ j ih =>
    intro i hij
    have hi : i < lc := by omega
    have k1346 : mj_W m_law (d + 8) mc ms Q 1346 [.ref 0, .ref 1, .int (nI lc), .int (nI rc), .ref 144, .int v5, .int v6, .int v7, .ref 145, .int v9, .int v10, .int v11, .int vx, w13, w14, w15, .ref w, .int (nI hh), .int (nI t), .int v19, .int v20, .int v21, .int v22, .ref s, .int v24, .int v25, .int (nI i)] [] (n, K, f, g) := by
      refine mj_iinc (i := 26) (q := 1349) dL_law_1346 rfl rfl (by decide) rfl ?_
      dsimp only [List.set]
      refine mj_goto (q := 1313) dL_law_1349 (by decide) ?_
      rw [show nI i + Int32.ofInt 1 = nI (i + 1) from nI_1 i]
      exact ih (i + 1) (by omega)
    refine mj_iload (i := 26) (q := 1315) dL_law_1313 rfl rfl ?_
    refine mj_iload_n (i := 2) (q := 1316) dL_law_1315 rfl rfl rfl ?_
    refine mj_icmp_ge (tgt := 1352) (q := 1319) dL_law_1316 (by decide) rfl (fun c_1316 => absurd c_1316 (nI_ge (a := i) (b := lc) hi (by omega))) (fun c_1316 => ?_)
    refine mj_aload (i := 16) (q := 1321) dL_law_1319 rfl rfl ?_
    refine mj_num1 (v := nI 2) (q := 1322) (by decide) dL_law_1321 rfl ?_
    refine mj_ialdn (q := 1323) dL_law_1322 rfl (by assumption) h2 ?_
    refine mj_aload_n (i := 1) (q := 1324) dL_law_1323 rfl rfl rfl ?_
    refine mj_iload (i := 26) (q := 1326) dL_law_1324 rfl rfl ?_
    refine mj_num1 (v := nI 1) (q := 1327) (by decide) dL_law_1326 rfl ?_
    refine mj_cV2i (K := m_X5_ofLift) (q := 1330) dL_law_1327 ln_L_36 ok_X5_ofLift (Nat.le_of_ble_eq_true rfl) (by decide) (by assumption) rfl rfl (s_ofLift hP hN (by omega) (by decide)) (fun r_1327 h1 hq => ?_)
    obtain ⟨rfl, rfl⟩ := hq
    refine mj_icmp_le (tgt := 1346) (q := 1333) dL_law_1330 (by decide) rfl (fun c_1330 => ?_) (fun c_1330 => ?_)
    · exact k1346
    · refine mj_aload_n (i := 1) (q := 1334) dL_law_1333 rfl rfl rfl ?_
      refine mj_iload (i := 26) (q := 1336) dL_law_1334 rfl rfl ?_
      refine mj_num1 (v := nI 3) (q := 1337) (by decide) dL_law_1336 rfl ?_
      refine mj_cV2i (K := m_X5_ofLift) (q := 1340) dL_law_1337 ln_L_36 ok_X5_ofLift (Nat.le_of_ble_eq_true rfl) (by decide) (by assumption) rfl rfl (s_ofLift hP hN (by omega) (by decide)) (fun r_1337 h1 hq => ?_)
      obtain ⟨rfl, rfl⟩ := hq
      refine mj_num1 (v := 1) (q := 1341) rfl dL_law_1340 rfl ?_
      refine mj_icmp_eq (tgt := 1346) (q := 1344) dL_law_1341 (by decide) rfl (fun c_1341 => ?_) (fun c_1341 => absurd (hr i hi (Int32.not_le.mp c_1330)) c_1341)
      exact k1346
