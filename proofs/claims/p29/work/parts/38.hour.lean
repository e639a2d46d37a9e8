/-! AN HOUR: what it leaves, what it adds -/
def gSum (rs : Nat → rV) : Nat → Int
  | 0 => 0
  | n + 1 => gSum rs n + ((rs n).2 6).toInt
theorem nI_succ1 (a : Int32) (t : Nat) : a + nI t + 1 = a + nI (t + 1) := by
  rw [Int32.add_assoc]
  congr 1
  exact nI_1 t
theorem i32_ne1 (a : Int32) : ¬ a + 1 = a := by
  intro h
  have h2 := congrArg (fun z => z - a) h
  have e : a + 1 - a = 1 := by rw [Int32.add_comm, Int32.add_sub_cancel]
  have h2 : a + 1 - a = a - a := h2
  rw [e, Int32.sub_self] at h2
  exact absurd h2 (by decide)
theorem i32_c {a b c : Int32} (h : a + c = b + c) : a = b := by
  have h2 : a + c - c = b + c - c := congrArg (fun z => z - c) h
  rwa [Int32.add_sub_cancel, Int32.add_sub_cancel] at h2
theorem vHourN_spec {W mu : Nat → Int32} {rs : Nat → rV} (hW : IW W) (hw : IR 0 5000 (mu 6)) : ∀ n, (∀ i, i < n → JR (rs i)) →
    (∀ i, i < n → JR ((vHourN W mu rs n).2 i) ∧ SR (rs i) ((vHourN W mu rs n).2 i) ∧ ((vHourN W mu rs n).2 i).2 8 = (rs i).2 8 ∧ (((vHourN W mu rs n).2 i).2 9 = (rs i).2 9 → (vRisk (((vHourN W mu rs n).2 i).2 3) ((vHourN W mu rs n).2 i).1).toInt < 100)) ∧
    (∃ j : Int, 0 ≤ j ∧ j ≤ gSum rs n ∧ ((vHourN W mu rs n).1 6).toInt = (mu 6).toInt - 5 * j ∧ 0 ≤ ((vHourN W mu rs n).1 6).toInt) ∧
    (∀ k, k ≠ 6 → k ≠ 10 → k ≠ 11 → k ≠ 12 → (vHourN W mu rs n).1 k = mu k) ∧
    ∃ t a b : Nat, t ≤ n ∧ a ≤ t ∧ b ≤ t ∧ (vHourN W mu rs n).1 10 = mu 10 + nI t ∧ (vHourN W mu rs n).1 11 = mu 11 + nI a ∧ (vHourN W mu rs n).1 12 = mu 12 + nI b ∧
      rSum (fun i => ((vHourN W mu rs n).2 i).2 9) n = rSum (fun i => (rs i).2 9) n + nI t
  | 0, _ => by
    have z : ∀ x : Int32, x = x + nI 0 := fun x => (Int32.add_zero x).symm
    exact ⟨fun i hi => absurd hi (Nat.not_lt_zero i), ⟨0, Int.le_refl 0, Int.le_refl 0, by show (mu 6).toInt = (mu 6).toInt - 5 * 0; omega, hw.1⟩, fun _ _ _ _ _ => rfl, 0, 0, 0, Nat.le_refl 0, Nat.le_refl 0, Nat.le_refl 0, z _, z _, z _, z _⟩
  | n + 1, h => by
    obtain ⟨a1, ⟨j, j0, j1, j2, j3⟩, a3, t, a, b, t0, t1, t2, t3, t4, t5, t6⟩ := vHourN_spec hW hw n (fun i hi => h i (by omega))
    have hn := h n (by omega)
    have e1 : (vHourN W mu rs (n + 1)).1 = (vHourRun W (vHourN W mu rs n).1 (rs n)).1 := rfl
    have e2 : (vHourN W mu rs (n + 1)).2 = mj_row (vHourN W mu rs n).2 n (vHourRun W (vHourN W mu rs n).1 (rs n)).2 := rfl
    rw [e1, e2]
    generalize vHourN W mu rs n = S at a1 j2 j3 a3 t3 t4 t5 t6 ⊢
    obtain ⟨m1, r1⟩ := S
    dsimp only at a1 j2 j3 a3 t3 t4 t5 t6 ⊢
    unfold IR at hw
    have h6 := hn.2.2.2.2.1
    unfold IR at h6
    have sp := vHourRun_spec (W := W) (mu := m1) hW hn ⟨j3, by omega⟩
    generalize vHourRun W m1 (rs n) = V at sp ⊢
    obtain ⟨m2, x2⟩ := V
    obtain ⟨b1, b2, b3, ⟨i, i0, i1, i2, i3⟩, b5, b6⟩ := sp
    dsimp only at b1 b2 b3 i2 i3 b5 b6 ⊢
    have sum : rSum (fun i => (mj_row r1 n x2 i).2 9) (n + 1) = rSum (fun i => (r1 i).2 9) n + x2.2 9 := by
      show rSum (fun i => (mj_row r1 n x2 i).2 9) n + (mj_row r1 n x2 n).2 9 = _
      rw [rSum_congr (F := fun i => (mj_row r1 n x2 i).2 9) (G := fun i => (r1 i).2 9) (fun i hi => by (try dsimp only); rw [mj_rown (by omega)]), mj_rowe]
    refine ⟨fun k hk => ?_, ⟨j + i, by omega, ?_, by omega, i3⟩, fun k k6 k10 k11 k12 => by rw [b5 k k6 k10 k11 k12, a3 k k6 k10 k11 k12], ?_⟩
    · by_cases e : k = n
      · subst e
        rw [mj_rowe]
        refine ⟨b1, b2, b3, fun q => ?_⟩
        rcases b6 with ⟨-, c, -⟩ | ⟨c, -⟩
        · exact c
        · exfalso
          rw [c] at q
          exact i32_ne1 _ q
      · rw [mj_rown e]; exact a1 k (by omega)
    · show j + i ≤ gSum rs n + ((rs n).2 6).toInt
      omega
    · rw [sum, t6]
      rcases b6 with ⟨c1, -, c3, c4, c5⟩ | ⟨c1, c3, c4, c5⟩
      · refine ⟨t, a, b, by omega, t1, t2, by rw [c3, t3], by rw [c4, t4], by rw [c5, t5], ?_⟩
        rw [c1]
        show _ = rSum (fun i => (rs i).2 9) n + (rs n).2 9 + nI t
        ac_rfl
      · have g1 : ∃ a2, a2 ≤ t + 1 ∧ m2 11 = mu 11 + nI a2 := by
          rcases c4 with c | c
          · exact ⟨a, by omega, by rw [c, t4]⟩
          · exact ⟨a + 1, by omega, by rw [c, t4, nI_succ1]⟩
        have g2 : ∃ b2, b2 ≤ t + 1 ∧ m2 12 = mu 12 + nI b2 := by
          rcases c5 with c | c
          · exact ⟨b, by omega, by rw [c, t5]⟩
          · exact ⟨b + 1, by omega, by rw [c, t5, nI_succ1]⟩
        obtain ⟨a2, ga, gb⟩ := g1
        obtain ⟨b2', gc, gd⟩ := g2
        refine ⟨t + 1, a2, b2', by omega, ga, gc, by rw [c3, t3, nI_succ1], gb, gd, ?_⟩
        rw [c1]
        show rSum (fun i => (rs i).2 9) n + nI t + ((rs n).2 9 + 1) = rSum (fun i => (rs i).2 9) n + (rs n).2 9 + nI (t + 1)
        rw [← nI_succ1]
        ac_rfl
/-- what holds of the mountain at every time; B: hours and blasts so far -/
def JY (F : Nat → Int32) (y : mV) (B : Nat) : Prop :=
  y.1 ≤ 4 ∧ y.2.1 ≤ 8 ∧ (∀ i, i < y.2.1 → JR (y.2.2.2.2 i) ∧ (y.2.2.2.2 i).2 5 = F i) ∧ (∀ l, l < y.1 → IR 0 999 (y.2.2.2.1 l 0)) ∧ IR 0 5000 (y.2.2.1 6) ∧ IR 0 5000 (y.2.2.1 9) ∧
  y.2.2.1 10 = rSum (fun i => (y.2.2.2.2 i).2 9) y.2.1 ∧ y.2.2.1 14 = rSum (fun l => y.2.2.2.1 l 4) y.1 ∧ rSum (fun i => (y.2.2.2.2 i).2 8) y.2.1 = y.2.2.1 14 ∧
  (0 ≤ (y.2.2.1 11).toInt ∧ (y.2.2.1 11).toInt ≤ (y.2.2.1 10).toInt ∧ 0 ≤ (y.2.2.1 12).toInt ∧ (y.2.2.1 12).toInt ≤ (y.2.2.1 10).toInt ∧ (y.2.2.1 10).toInt ≤ 8 * (B : Int)) ∧ 0 ≤ (y.2.2.1 13).toInt ∧ (y.2.2.1 13).toInt ≤ 9600 * (B : Int) ∧
  (0 ≤ (y.2.2.1 4).toInt ∧ (y.2.2.1 4).toInt ≤ (B : Int)) ∧ ∀ i, i < y.2.1 → 0 ≤ ((y.2.2.2.2 i).2 13).toInt ∧ ((y.2.2.2.2 i).2 13).toInt ≤ (y.2.2.1 4).toInt
/-- what an hour does, as the law asks -/
def HF (W : Nat → Int32) (y z : mV) : Prop :=
  z.1 = y.1 ∧ z.2.1 = y.2.1 ∧ z.2.2.1 4 = y.2.2.1 4 + 1 ∧ (z.2.2.1 7 = y.2.2.1 7 ∧ z.2.2.1 8 = y.2.2.1 8 ∧ z.2.2.1 9 = y.2.2.1 9) ∧
  (∃ t b : Nat, t ≤ y.2.1 ∧ b ≤ t ∧ z.2.2.1 10 = y.2.2.1 10 + nI t ∧ z.2.2.1 12 = y.2.2.1 12 + nI b) ∧ (y.2.2.1 13).toInt ≤ (z.2.2.1 13).toInt ∧
  (∃ j : Int, 0 ≤ j ∧ j ≤ gSum y.2.2.2.2 y.2.1 ∧ (z.2.2.1 6).toInt = (y.2.2.1 6).toInt - 5 * j) ∧
  (∀ i, i < y.2.1 → SR (y.2.2.2.2 i) (z.2.2.2.2 i) ∧ ((z.2.2.2.2 i).2 9 = (y.2.2.2.2 i).2 9 → (vRisk ((z.2.2.2.2 i).2 3) (z.2.2.2.2 i).1).toInt < 100)) ∧
  (∀ l, l < y.1 → (y.2.2.2.1 l 1 < W 2 → z.2.2.2.1 l 3 = 1) ∧ ∀ k, k ≠ 3 → k ≠ 4 → z.2.2.2.1 l k = y.2.2.2.1 l k) ∧
  z.2.2.1 14 + z.2.2.1 15 = y.2.2.1 14 + y.2.2.1 15 + (if 9 ≤ (y.2.2.1 4 + 1) % 24 ∧ (y.2.2.1 4 + 1) % 24 ≤ 16 then y.2.2.1 9 else 0)
theorem vHour_spec {F W : Nat → Int32} {y : mV} {B : Nat} (hW : IW W) (hB : B ≤ 1000) (h : JY F y B) : JY F (vHour W y) (B + 1) ∧ HF W y (vHour W y) := by
  obtain ⟨lc, rc, mu, ls, rs⟩ := y
  obtain ⟨j1, j2, j3, j4, j5, j6, j7, j8, j9, ⟨j10, j11, j12, j13, j14⟩, j15, j16, ⟨j17, j18⟩, j19⟩ := h
  dsimp only at j1 j2 j3 j4 j5 j6 j7 j8 j9 j10 j11 j12 j13 j14 j15 j16 j17 j18 j19
  obtain ⟨mu0, emu0⟩ : ∃ z, z = upd (upd mu 4 (mu 4 + 1)) 5 (W 2) := ⟨_, rfl⟩
  have u : ∀ k, k ≠ 4 → k ≠ 5 → mu0 k = mu k := fun k k4 k5 => by rw [emu0, upd_n k5, upd_n k4]
  have u4 : mu0 4 = mu 4 + 1 := by rw [emu0, upd_n (by decide), upd_e]
  have sp := vHourN_spec (W := W) (mu := mu0) (rs := rs) hW (by rw [u 6 (by decide) (by decide)]; exact j5) rc (fun i hi => (j3 i hi).1)
  obtain ⟨S, hS⟩ : ∃ S, S = vHourN W mu0 rs rc := ⟨_, rfl⟩
  rw [← hS] at sp
  obtain ⟨m1, r1⟩ := S
  have ev : vHour W (lc, rc, mu, ls, rs) = if 9 ≤ m1 4 % 24 ∧ m1 4 % 24 ≤ 16 then (lc, rc, (vCarryS (vCarryN rc m1 (vHoldN (W 2) ls lc) r1 (m1 9) lc)).1, (vCarryS (vCarryN rc m1 (vHoldN (W 2) ls lc) r1 (m1 9) lc)).2.1, (vCarryS (vCarryN rc m1 (vHoldN (W 2) ls lc) r1 (m1 9) lc)).2.2) else (lc, rc, m1, vHoldN (W 2) ls lc, r1) := by
    unfold vHour
    dsimp only
    rw [← emu0, ← hS]
  obtain ⟨a1, ⟨j, g0, g1, g2, g3⟩, a3, t, a, b, t0, t1, t2, t3, t4, t5, t6⟩ := sp
  dsimp only at a1 g2 g3 a3 t3 t4 t5 t6
  rw [u 6 (by decide) (by decide)] at g2
  rw [u 10 (by decide) (by decide)] at t3
  rw [u 11 (by decide) (by decide)] at t4
  rw [u 12 (by decide) (by decide)] at t5
  have m4 : m1 4 = mu 4 + 1 := by rw [a3 4 (by decide) (by decide) (by decide) (by decide), u4]
  have mk : ∀ k, k ≠ 4 → k ≠ 5 → k ≠ 6 → k ≠ 10 → k ≠ 11 → k ≠ 12 → m1 k = mu k := fun k k4 k5 k6 k10 k11 k12 => by rw [a3 k k6 k10 k11 k12, u k k4 k5]
  have n1 : (1 : Int32).toInt = 1 := rfl
  have s4 := ir_add (x := mu 4) (y := 1) (by rw [n1]; omega) (by rw [n1]; omega)
  rw [n1] at s4
  have m7 := mk 7 (by decide) (by decide) (by decide) (by decide) (by decide) (by decide)
  have m8 := mk 8 (by decide) (by decide) (by decide) (by decide) (by decide) (by decide)
  have m9 := mk 9 (by decide) (by decide) (by decide) (by decide) (by decide) (by decide)
  have m13 := mk 13 (by decide) (by decide) (by decide) (by decide) (by decide) (by decide)
  have m14 := mk 14 (by decide) (by decide) (by decide) (by decide) (by decide) (by decide)
  have m15 := mk 15 (by decide) (by decide) (by decide) (by decide) (by decide) (by decide)
  have nt := nI_toInt (n := t) (by omega)
  have na := nI_toInt (n := a) (by omega)
  have nb := nI_toInt (n := b) (by omega)
  have s10 := ir_add (x := mu 10) (y := nI t) (by rw [nt]; omega) (by rw [nt]; omega)
  have s11 := ir_add (x := mu 11) (y := nI a) (by rw [na]; omega) (by rw [na]; omega)
  have s12 := ir_add (x := mu 12) (y := nI b) (by rw [nb]; omega) (by rw [nb]; omega)
  rw [nt, ← t3] at s10
  rw [na, ← t4] at s11
  rw [nb, ← t5] at s12
  unfold IR at j5 j6
  obtain ⟨ho, hh⟩ := vHoldN_spec (W 2) ls lc
  have sl9 : m1 10 = rSum (fun i => (r1 i).2 9) rc := by rw [t6, t3, j7]
  have r8 : rSum (fun i => (r1 i).2 8) rc = mu 14 := by
    rw [rSum_congr (F := fun i => (r1 i).2 8) (G := fun i => (rs i).2 8) (fun i hi => (a1 i hi).2.2.1)]
    exact j9
  have l4 : rSum (fun l => vHoldN (W 2) ls lc l 4) lc = mu 14 := by
    rw [rSum_congr (F := fun l => vHoldN (W 2) ls lc l 4) (G := fun l => ls l 4) (fun l hl => ho l 4 (by decide))]
    exact j8.symm
  rw [ev]
  split
  · rename_i hc
    have cs := vCarryN_spec (rc := rc) (mu := m1) (ls := vHoldN (W 2) ls lc) (rs := r1) (left := m1 9) j2 (fun i hi => (a1 i hi).1.1) (by rw [m9]; exact ⟨j6.1, j6.2⟩) lc j1 (fun l hl => by rw [ho l 0 (by decide)]; exact j4 l hl)
    generalize vCarryN rc m1 (vHoldN (W 2) ls lc) r1 (m1 9) lc = C at cs ⊢
    obtain ⟨m2, l2, r2, lf⟩ := C
    obtain ⟨c1, c2, c3, c4, c5, c6, c7, c8⟩ := cs
    dsimp only at c1 c2 c3 c4 c5 c6 c7 c8 ⊢
    have c8 := c8 (by rw [m13]; exact j15) (by rw [m13]; omega)
    rw [m13] at c8
    rw [m14] at c4
    rw [l4] at c5
    rw [r8] at c6
    have q14 : m2 14 = rSum (fun l => l2 l 4) lc := i32_c (c4.trans c5.symm)
    have q8 : rSum (fun i => (r2 i).2 8) rc = m2 14 := i32_c (c6.trans c4.symm)
    have p : ∀ k, k ≠ 13 → k ≠ 14 → k ≠ 15 → upd m2 15 (m2 15 + lf) k = m1 k := fun k k13 k14 k15 => by rw [upd_n k15, c2 k k13 k14]
    have p13 : upd m2 15 (m2 15 + lf) 13 = m2 13 := upd_n (by decide)
    have p14 : upd m2 15 (m2 15 + lf) 14 = m2 14 := upd_n (by decide)
    have p15 : upd m2 15 (m2 15 + lf) 15 = mu 15 + lf := by rw [upd_e, c2 15 (by decide) (by decide), m15]
    have p6 := p 6 (by decide) (by decide) (by decide)
    have p10 := p 10 (by decide) (by decide) (by decide)
    have p11 := p 11 (by decide) (by decide) (by decide)
    have p12 := p 12 (by decide) (by decide) (by decide)
    have p9 := p 9 (by decide) (by decide) (by decide)
    refine ⟨⟨j1, j2, fun i hi => ⟨(a1 i hi).1.ski (c1 i hi), ?_⟩, fun l hl => ?_, ?_, ?_, ?_, ?_, ?_, ⟨?_, ?_, ?_, ?_, ?_⟩, ?_, ?_, ⟨?_, ?_⟩, fun i hi => ?_⟩, rfl, rfl, ?_, ⟨?_, ?_, ?_⟩, ⟨t, b, t0, t2, ?_, ?_⟩, ?_, ⟨j, g0, g1, ?_⟩, fun i hi => ⟨?_, fun q => ?_⟩, fun l hl => ⟨fun hw => ?_, fun k k3 k4 => ?_⟩, ?_⟩
    · show (r2 i).2 5 = F i
      rw [(c1 i hi).2.2 5 (by decide), (a1 i hi).2.1 5 (by decide) (by decide) (by decide) (by decide) (by decide) (by decide) (by decide)]
      exact (j3 i hi).2
    · show IR 0 999 (l2 l 0)
      rw [c7 l 0 (by decide), ho l 0 (by decide)]
      exact j4 l hl
    · show IR 0 5000 (upd m2 15 (m2 15 + lf) 6)
      rw [p6]
      exact ⟨g3, by rw [g2]; omega⟩
    · show IR 0 5000 (upd m2 15 (m2 15 + lf) 9)
      rw [p9, m9]
      exact ⟨j6.1, j6.2⟩
    · show upd m2 15 (m2 15 + lf) 10 = rSum (fun i => (r2 i).2 9) rc
      rw [p10, sl9]
      exact rSum_congr (fun i hi => ((c1 i hi).2.2 9 (by decide)).symm)
    · show upd m2 15 (m2 15 + lf) 14 = rSum (fun l => l2 l 4) lc
      rw [p14]; exact q14
    · show rSum (fun i => (r2 i).2 8) rc = upd m2 15 (m2 15 + lf) 14
      rw [p14]; exact q8
    · show 0 ≤ (upd m2 15 (m2 15 + lf) 11).toInt
      rw [p11, s11]; omega
    · show (upd m2 15 (m2 15 + lf) 11).toInt ≤ (upd m2 15 (m2 15 + lf) 10).toInt
      rw [p11, p10, s11, s10]; omega
    · show 0 ≤ (upd m2 15 (m2 15 + lf) 12).toInt
      rw [p12, s12]; omega
    · show (upd m2 15 (m2 15 + lf) 12).toInt ≤ (upd m2 15 (m2 15 + lf) 10).toInt
      rw [p12, p10, s12, s10]; omega
    · show (upd m2 15 (m2 15 + lf) 10).toInt ≤ 8 * ((B + 1 : Nat) : Int)
      rw [p10, s10]; omega
    · show 0 ≤ (upd m2 15 (m2 15 + lf) 13).toInt
      rw [p13]; omega
    · show (upd m2 15 (m2 15 + lf) 13).toInt ≤ 9600 * ((B + 1 : Nat) : Int)
      rw [p13]; omega
    · show 0 ≤ (upd m2 15 (m2 15 + lf) 4).toInt
      rw [p 4 (by decide) (by decide) (by decide), m4, s4]; omega
    · show (upd m2 15 (m2 15 + lf) 4).toInt ≤ ((B + 1 : Nat) : Int)
      rw [p 4 (by decide) (by decide) (by decide), m4, s4]; omega
    · show 0 ≤ ((r2 i).2 13).toInt ∧ ((r2 i).2 13).toInt ≤ (upd m2 15 (m2 15 + lf) 4).toInt
      rw [(c1 i hi).2.2 13 (by decide), (a1 i hi).2.1 13 (by decide) (by decide) (by decide) (by decide) (by decide) (by decide) (by decide), p 4 (by decide) (by decide) (by decide), m4, s4]
      have q := j19 i hi
      omega
    · show upd m2 15 (m2 15 + lf) 4 = mu 4 + 1
      rw [p 4 (by decide) (by decide) (by decide), m4]
    · show upd m2 15 (m2 15 + lf) 7 = mu 7
      rw [p 7 (by decide) (by decide) (by decide), m7]
    · show upd m2 15 (m2 15 + lf) 8 = mu 8
      rw [p 8 (by decide) (by decide) (by decide), m8]
    · show upd m2 15 (m2 15 + lf) 9 = mu 9
      rw [p9, m9]
    · show upd m2 15 (m2 15 + lf) 10 = mu 10 + nI t
      rw [p10, t3]
    · show upd m2 15 (m2 15 + lf) 12 = mu 12 + nI b
      rw [p12, t5]
    · show (mu 13).toInt ≤ (upd m2 15 (m2 15 + lf) 13).toInt
      rw [p13]; omega
    · show (upd m2 15 (m2 15 + lf) 6).toInt = (mu 6).toInt - 5 * j
      rw [p6]; exact g2
    · exact (a1 i hi).2.1.tr (c1 i hi).SR
    · have q : (r2 i).2 9 = (rs i).2 9 := q
      rw [(c1 i hi).2.2 9 (by decide)] at q
      have lt := (a1 i hi).2.2.2 q
      have le := TH.risk (slope := (r1 i).2 3) (a1 i hi).1.1 (c1 i hi).2.1 (c1 i hi).1 (a1 i hi).1.2.2.1
      show (vRisk ((r2 i).2 3) (r2 i).1).toInt < 100
      rw [(c1 i hi).2.2 3 (by decide)]
      omega
    · show l2 l 3 = 1
      rw [c7 l 3 (by decide)]
      exact hh l hl hw
    · show l2 l k = ls l k
      rw [c7 l k k4, ho l k k3]
    · show upd m2 15 (m2 15 + lf) 14 + upd m2 15 (m2 15 + lf) 15 = mu 14 + mu 15 + (if 9 ≤ (mu 4 + 1) % 24 ∧ (mu 4 + 1) % 24 ≤ 16 then mu 9 else 0)
      rw [m4] at hc
      rw [if_pos hc, p14, p15]
      have e : m2 14 + (mu 15 + lf) = (m2 14 + lf) + mu 15 := by ac_rfl
      rw [e, c4, m9]
      ac_rfl
  · rename_i hc
    refine ⟨⟨j1, j2, fun i hi => ⟨(a1 i hi).1, ?_⟩, fun l hl => ?_, ?_, ?_, sl9, ?_, ?_, ⟨?_, ?_, ?_, ?_, ?_⟩, ?_, ?_, ⟨?_, ?_⟩, fun i hi => ?_⟩, rfl, rfl, m4, ⟨m7, m8, m9⟩, ⟨t, b, t0, t2, t3, t5⟩, ?_, ⟨j, g0, g1, g2⟩, fun i hi => ⟨(a1 i hi).2.1, (a1 i hi).2.2.2⟩, fun l hl => ⟨fun hw => hh l hl hw, fun k k3 _ => ho l k k3⟩, ?_⟩
    · show (r1 i).2 5 = F i
      rw [(a1 i hi).2.1 5 (by decide) (by decide) (by decide) (by decide) (by decide) (by decide) (by decide)]
      exact (j3 i hi).2
    · show IR 0 999 (vHoldN (W 2) ls lc l 0)
      rw [ho l 0 (by decide)]
      exact j4 l hl
    · exact ⟨g3, by show (m1 6).toInt ≤ 5000; rw [g2]; omega⟩
    · show IR 0 5000 (m1 9)
      rw [m9]
      exact ⟨j6.1, j6.2⟩
    · show m1 14 = rSum (fun l => vHoldN (W 2) ls lc l 4) lc
      rw [m14, l4]
    · show rSum (fun i => (r1 i).2 8) rc = m1 14
      rw [r8, m14]
    · show 0 ≤ (m1 11).toInt
      rw [s11]; omega
    · show (m1 11).toInt ≤ (m1 10).toInt
      rw [s11, s10]; omega
    · show 0 ≤ (m1 12).toInt
      rw [s12]; omega
    · show (m1 12).toInt ≤ (m1 10).toInt
      rw [s12, s10]; omega
    · show (m1 10).toInt ≤ 8 * ((B + 1 : Nat) : Int)
      rw [s10]; omega
    · show 0 ≤ (m1 13).toInt
      rw [m13]; omega
    · show (m1 13).toInt ≤ 9600 * ((B + 1 : Nat) : Int)
      rw [m13]; omega
    · show 0 ≤ (m1 4).toInt
      rw [m4, s4]; omega
    · show (m1 4).toInt ≤ ((B + 1 : Nat) : Int)
      rw [m4, s4]; omega
    · show 0 ≤ ((r1 i).2 13).toInt ∧ ((r1 i).2 13).toInt ≤ (m1 4).toInt
      rw [(a1 i hi).2.1 13 (by decide) (by decide) (by decide) (by decide) (by decide) (by decide) (by decide), m4, s4]
      have q := j19 i hi
      omega
    · show (mu 13).toInt ≤ (m1 13).toInt
      rw [m13]; omega
    · show m1 14 + m1 15 = mu 14 + mu 15 + (if 9 ≤ (mu 4 + 1) % 24 ∧ (mu 4 + 1) % 24 ≤ 16 then mu 9 else 0)
      rw [m4] at hc
      rw [if_neg hc, m14, m15, Int32.add_zero]
