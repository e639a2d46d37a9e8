/-! INVARIANTS: what an hour does to a run -/
set_option maxHeartbeats 100000 in
theorem IS.weather {W : Nat → Int32} {asp temp clock : Int32} {x : sV} (h : IS x) (h1 : IR 0 9 (W 1)) (h2 : IR 0 9 (W 2)) : IS (vWeather W asp temp clock x) := by
  unfold vWeather
  refine IS.settle ?_
  have a := h.come (temp := temp) h1
  have b : IS (vWa W asp temp (vCome (W 1) temp x)) := by
    unfold vWa
    split
    · rename_i hc
      have z := Int32.lt_iff_toInt_lt.mp hc.1
      rw [show (4 : Int32).toInt = 4 from rfl] at z
      refine a.drift ?_
      unfold IR at h2 ⊢
      have n4 : (4 : Int32).toInt = 4 := rfl
      have s := ir_sub (x := W 2) (y := 4) (by rw [n4]; omega) (by rw [n4]; omega)
      rw [s, n4]
      omega
    · exact a
  have c : IS (vWb W asp temp clock (vWa W asp temp (vCome (W 1) temp x))) := by
    unfold vWb
    split
    · exact b.melt ⟨by decide, by decide⟩
    · exact b
  have e : IS (vWc temp (vWb W asp temp clock (vWa W asp temp (vCome (W 1) temp x)))) := by
    unfold vWc
    split
    · exact c.freeze
    · exact c
  unfold vWd
  split
  · exact e.weak
  · exact e
set_option maxHeartbeats 100000 in
theorem IS.pile {made : Int32} {x : sV} (h : IS x) (hm : IR 0 300 made) : IS (vPile made x) := by
  unfold vPile
  split
  · rename_i hc
    have z := Int32.lt_iff_toInt_lt.mp hc
    rw [show (0 : Int32).toInt = 0 from rfl] at z
    split
    · exact h.thicken ⟨hm.1, by have := hm.2; omega⟩
    · exact h.lay ⟨by omega, hm.2⟩ ⟨by decide, by decide⟩ ⟨by decide, by decide⟩
  · exact h
set_option maxHeartbeats 100000 in
theorem IS.thinN : ∀ (n : Nat) {x : sV}, IS x → IS (vThinN n x)
  | 0, _, h => h
  | n + 1, _, h => IS.thinN n (h.thin ⟨by decide, by decide⟩)
set_option maxHeartbeats 100000 in
theorem vGuns_spec {each : Int32} (he : IR 0 6 each) : ∀ (n : Nat) (w h : Int32), n ≤ 9 → IR 0 5000 w → 0 ≤ h.toInt → h.toInt + 6 * (n : Int) ≤ 100000 → ∃ j : Nat, j ≤ n ∧ (vGuns each n w h).1.toInt = w.toInt - 5 * (j : Int) ∧ 0 ≤ (vGuns each n w h).1.toInt ∧ (vGuns each n w h).2.toInt = h.toInt + each.toInt * (j : Int)
  | 0, w, h, _, hw, _, _ => ⟨0, Nat.le_refl 0, by show w.toInt = w.toInt - 5 * 0; omega, hw.1, by show h.toInt = h.toInt + each.toInt * 0; omega⟩
  | n + 1, w, h, hn, hw, h0, hh => by
    rw [vGuns]
    split
    · exact ⟨0, Nat.zero_le _, by show w.toInt = w.toInt - 5 * 0; omega, hw.1, by show h.toInt = h.toInt + each.toInt * 0; omega⟩
    · rename_i hc
      have z : ¬ (w.toInt < (105 : Int32).toInt) := fun q => hc (Int32.lt_iff_toInt_lt.mpr q)
      rw [show (105 : Int32).toInt = 105 from rfl] at z
      unfold IR at he hw
      have n5 : (5 : Int32).toInt = 5 := rfl
      have s := ir_sub (x := w) (y := 5) (by rw [n5]; omega) (by rw [n5]; omega)
      rw [n5] at s
      have a := ir_add (x := h) (y := each) (by omega) (by omega)
      obtain ⟨j, hj, e1, e2, e3⟩ := vGuns_spec he n (w - 5) (h + each) (by omega) ⟨by rw [s]; omega, by rw [s]; omega⟩ (by rw [a]; omega) (by rw [a]; omega)
      refine ⟨j + 1, by omega, by rw [e1, s]; omega, e2, ?_⟩
      rw [e3, a]
      have : each.toInt * ((j + 1 : Nat) : Int) = each.toInt * j + each.toInt := by
        rw [show ((j + 1 : Nat) : Int) = (j : Int) + 1 from rfl, Int.mul_add, Int.mul_one]
      omega
set_option maxHeartbeats 100000 in
theorem ir_div {a b : Int32} (ha : 0 ≤ a.toInt) (hb : 0 < b.toInt) : (a / b).toInt = a.toInt / b.toInt := by
  have nz : b ≠ -1 := by
    intro z
    have z2 : b.toInt = -1 := by rw [z]; rfl
    omega
  rw [Int32.toInt_div_of_ne_right _ _ nz, Int.tdiv_eq_ediv_of_nonneg ha]
set_option maxHeartbeats 100000 in
theorem ir_clamp {a : Int32} (ha : 0 ≤ a.toInt) : (a.toNatClampNeg : Int) = a.toInt := by
  show (a.toInt.toNat : Int) = a.toInt
  omega
/-- the bounds of the weather that is told -/
def IW (W : Nat → Int32) : Prop := IR (-20) 20 (W 0) ∧ IR 0 9 (W 1) ∧ IR 0 9 (W 2) ∧ IR 0 3 (W 3) ∧ IR 0 100 (W 4)
/-- the bounds of a run -/
def JR (x : rV) : Prop := IS x.1 ∧ IR 0 30 (x.2 2) ∧ IR 5 45 (x.2 3) ∧ IR 1 9 (x.2 5) ∧ IR 0 9 (x.2 6) ∧ 0 ≤ (x.2 7).toInt ∧ (x.2 7).toInt < (x.2 5).toInt
set_option maxHeartbeats 100000 in
theorem vMakeG_spec {bulb guns w h : Int32} (hb : IR (-60) 60 bulb) (hg : IR 0 9 guns) (hw : IR 0 5000 w) (hh : IR 0 8 h) : ∃ j : Int, 0 ≤ j ∧ j ≤ guns.toInt ∧ (vMakeG bulb guns w h).1.toInt = w.toInt - 5 * j ∧ 0 ≤ (vMakeG bulb guns w h).1.toInt ∧ IR 0 62 (vMakeG bulb guns w h).2 := by
  unfold vMakeG
  unfold IR at hb hg hw hh
  split
  · exact ⟨0, by omega, by omega, by show w.toInt = w.toInt - 5 * 0; omega, hw.1, hh.1, by show h.toInt ≤ 62; omega⟩
  · rename_i hc
    have nm4 : (-4 : Int32).toInt = -4 := rfl
    have nm3 : (-3 : Int32).toInt = -3 := rfl
    have n6 : (6 : Int32).toInt = 6 := rfl
    have z : ¬ ((-4 : Int32).toInt < bulb.toInt) := fun q => hc (Int32.lt_iff_toInt_lt.mpr q)
    rw [nm4] at z
    have s := ir_sub (x := -3) (y := bulb) (by rw [nm3]; omega) (by rw [nm3]; omega)
    rw [nm3] at s
    have m := ir_min (x := -3 - bulb) (y := 6)
    rw [s, n6] at m
    have he : IR 0 6 (vMin (-3 - bulb) 6) := ⟨by omega, by omega⟩
    have cl := ir_clamp hg.1
    obtain ⟨j, hj, e1, e2, e3⟩ := vGuns_spec he guns.toNatClampNeg w h (by omega) hw hh.1 (by omega)
    have p : (vMin (-3 - bulb) 6).toInt * (j : Int) ≤ 6 * 9 := Int.mul_le_mul he.2 (by omega) (by omega) (by omega)
    have p0 : 0 ≤ (vMin (-3 - bulb) 6).toInt * (j : Int) := Int.mul_nonneg he.1 (by omega)
    refine ⟨(j : Int), Int.natCast_nonneg j, by omega, e1, e2, ?_⟩
    unfold IR
    rw [e3]
    clear e1 e2 e3 he m s z cl
    generalize (vMin (-3 - bulb) 6).toInt * (j : Int) = P at p p0 ⊢
    exact ⟨by omega, by omega⟩
set_option maxHeartbeats 100000 in
theorem vMade_spec {h area : Int32} (hh : IR 0 62 h) (ha : IR 1 9 area) : IR 0 62 (vMade h area) ∧ 0 ≤ (h - vMade h area * area).toInt ∧ (h - vMade h area * area).toInt < area.toInt := by
  unfold IR at hh ha
  have n1 : (1 : Int32).toInt = 1 := rfl
  have le : 1 ≤ area := Int32.le_iff_toInt_le.mpr (by rw [n1]; omega)
  unfold vMade
  rw [if_pos le]
  have d := ir_div (a := h) (b := area) hh.1 (by omega)
  have q0 : 0 ≤ h.toInt / area.toInt := Int.ediv_nonneg hh.1 (by omega)
  have q1 : h.toInt / area.toInt ≤ h.toInt := Int.ediv_le_self _ hh.1
  have em := Int.emod_def h.toInt area.toInt
  have e0 := Int.emod_nonneg h.toInt (b := area.toInt) (by omega)
  have e1 := Int.emod_lt_of_pos h.toInt (b := area.toInt) (by omega)
  have cm : area.toInt * (h.toInt / area.toInt) = h.toInt / area.toInt * area.toInt := Int.mul_comm _ _
  rw [cm] at em
  have m := ir_mul (x := h / area) (y := area) (by rw [d]; omega) (by rw [d]; omega)
  rw [d] at m
  have s := ir_sub (x := h) (y := h / area * area) (by rw [m]; omega) (by rw [m]; omega)
  rw [m] at s
  exact ⟨⟨by rw [d]; omega, by rw [d]; omega⟩, by rw [s]; omega, by rw [s]; omega⟩
/-- what an hour leaves of a run as it was: all but heap, riders, slides, watch, risk, open, swept -/
def SR (x x' : rV) : Prop := ∀ k, k ≠ 7 → k ≠ 8 → k ≠ 9 → k ≠ 12 → k ≠ 14 → k ≠ 15 → k ≠ 17 → x'.2 k = x.2 k
set_option maxHeartbeats 100000 in
theorem SR.rf (x : rV) : SR x x := fun _ _ _ _ _ _ _ _ => rfl
set_option maxHeartbeats 100000 in
theorem SR.tr {x y z : rV} (h : SR x y) (g : SR y z) : SR x z := fun k a b c d e f i => (g k a b c d e f i).trans (h k a b c d e f i)
set_option maxHeartbeats 100000 in
theorem vHourRun_spec {W mu : Nat → Int32} {x : rV} (hW : IW W) (h : JR x) (hw : IR 0 5000 (mu 6)) :
    JR (vHourRun W mu x).2 ∧ SR x (vHourRun W mu x).2 ∧ (vHourRun W mu x).2.2 8 = x.2 8 ∧
    (∃ j : Int, 0 ≤ j ∧ j ≤ (x.2 6).toInt ∧ ((vHourRun W mu x).1 6).toInt = (mu 6).toInt - 5 * j ∧ 0 ≤ ((vHourRun W mu x).1 6).toInt) ∧
    (∀ k, k ≠ 6 → k ≠ 10 → k ≠ 11 → k ≠ 12 → (vHourRun W mu x).1 k = mu k) ∧
    (((vHourRun W mu x).2.2 9 = x.2 9 ∧ (vRisk ((vHourRun W mu x).2.2 3) (vHourRun W mu x).2.1).toInt < 100 ∧ (vHourRun W mu x).1 10 = mu 10 ∧ (vHourRun W mu x).1 11 = mu 11 ∧ (vHourRun W mu x).1 12 = mu 12) ∨
     ((vHourRun W mu x).2.2 9 = x.2 9 + 1 ∧ (vHourRun W mu x).1 10 = mu 10 + 1 ∧ ((vHourRun W mu x).1 11 = mu 11 ∨ (vHourRun W mu x).1 11 = mu 11 + 1) ∧ ((vHourRun W mu x).1 12 = mu 12 ∨ (vHourRun W mu x).1 12 = mu 12 + 1))) := by
  obtain ⟨w0, w1, w2, w3, w4⟩ := hW
  obtain ⟨hS, h2, h3, h5, h6, h7a, h7b⟩ := h
  obtain ⟨temp, htemp⟩ : ∃ t, t = W 0 - x.2 2 / 2 := ⟨_, rfl⟩
  obtain ⟨bulb, hbulb⟩ : ∃ t, t = temp - (100 - W 4) / 10 := ⟨_, rfl⟩
  have hb : IR (-60) 60 bulb := by
    unfold IR at w0 w4 h2
    have n2 : (2 : Int32).toInt = 2 := rfl
    have n10 : (10 : Int32).toInt = 10 := rfl
    have n100 : (100 : Int32).toInt = 100 := rfl
    have d := ir_div (a := x.2 2) (b := 2) h2.1 (by rw [n2]; omega)
    rw [n2] at d
    have s := ir_sub (x := W 0) (y := x.2 2 / 2) (by rw [d]; omega) (by rw [d]; omega)
    rw [d, ← htemp] at s
    have s2 := ir_sub (x := 100) (y := W 4) (by rw [n100]; omega) (by rw [n100]; omega)
    rw [n100] at s2
    have d2 := ir_div (a := 100 - W 4) (b := 10) (by rw [s2]; omega) (by rw [n10]; omega)
    rw [s2, n10] at d2
    have s3 := ir_sub (x := temp) (y := (100 - W 4) / 10) (by rw [d2, s]; omega) (by rw [d2, s]; omega)
    rw [d2, s, ← hbulb] at s3
    exact ⟨by rw [s3]; omega, by rw [s3]; omega⟩
  have hh : IR 0 8 (x.2 7) := by
    unfold IR at h5
    exact ⟨h7a, by omega⟩
  obtain ⟨j, g0, g1, g2, g3, g4⟩ := vMakeG_spec hb h6 hw hh
  obtain ⟨Sw, hSw⟩ : ∃ S, S = vWeather W (x.2 4) temp (mu 4 % 24) x.1 := ⟨_, rfl⟩
  have iw : IS Sw := by rw [hSw]; exact hS.weather w1 w2
  obtain ⟨G, hG⟩ : ∃ G, G = vMakeG bulb (x.2 6) (mu 6) (x.2 7) := ⟨_, rfl⟩
  rw [← hG] at g2 g3 g4
  obtain ⟨m0, m1, m2⟩ := vMade_spec g4 h5
  obtain ⟨S2, hS2⟩ : ∃ S, S = vPile (vMade G.2 (x.2 5)) Sw := ⟨_, rfl⟩
  have i2 : IS S2 := by
    rw [hS2]
    unfold IR at m0
    exact iw.pile ⟨m0.1, by omega⟩
  have e : vHourRun W mu x = if vRisk (x.2 3) S2 < 100 then (upd mu 6 G.1, (S2, upd (upd x.2 7 (G.2 - vMade G.2 (x.2 5) * x.2 5)) 14 (vRisk (x.2 3) S2)))
      else (vSlideMu (upd (upd mu 6 G.1) 12 (mu 12 + v01 (x.2 15))) (vSlideSize (S2, upd (upd (upd x.2 7 (G.2 - vMade G.2 (x.2 5) * x.2 5)) 14 (vRisk (x.2 3) S2)) 15 0)), vSlideRun (S2, upd (upd (upd x.2 7 (G.2 - vMade G.2 (x.2 5) * x.2 5)) 14 (vRisk (x.2 3) S2)) 15 0)) := by
    rw [hS2, hSw, hG, hbulb, htemp]
    rfl
  rw [e]
  split
  · rename_i hc
    have z := Int32.lt_iff_toInt_lt.mp hc
    rw [show (100 : Int32).toInt = 100 from rfl] at z
    refine ⟨⟨i2, h2, h3, h5, h6, m1, m2⟩, fun k k7 k8 k9 k12 k14 k15 k17 => ?_, rfl, ⟨j, g0, g1, g2, g3⟩, fun k k6 k10 k11 k12 => upd_n k6, Or.inl ⟨rfl, z, rfl, rfl, rfl⟩⟩
    show upd (upd x.2 7 _) 14 _ k = x.2 k
    rw [upd_n k14, upd_n k7]
  · have hd : IS (vDrop (vShear (x.2 3) S2) S2) := i2.drop (by
      rcases vShear_spec (x.2 3) S2 with q | ⟨k, hk, q, -⟩
      · exact Or.inl q
      · exact Or.inr ⟨k, by omega, q⟩)
    have v1 : v01 (x.2 15) = 0 ∨ v01 (x.2 15) = 1 := by
      unfold v01
      split
      · exact Or.inl rfl
      · exact Or.inr rfl
    refine ⟨⟨hd, h2, h3, h5, h6, m1, m2⟩, fun k k7 k8 k9 k12 k14 k15 k17 => ?_, rfl, ⟨j, g0, g1, ?_, ?_⟩, fun k k6 k10 k11 k12 => ?_, Or.inr ⟨rfl, ?_, ?_, ?_⟩⟩
    · show upd (upd (upd (upd (upd (upd x.2 7 _) 14 _) 15 0) 12 (-1)) 17 0) 9 _ k = x.2 k
      rw [upd_n k9, upd_n k17, upd_n k12, upd_n k15, upd_n k14, upd_n k7]
    · unfold vSlideMu
      split <;> exact g2
    · unfold vSlideMu
      split <;> exact g3
    · unfold vSlideMu
      split
      · show upd (upd (upd mu 6 G.1) 12 _) 10 _ k = mu k
        rw [upd_n k10, upd_n k12, upd_n k6]
      · show upd (upd (upd (upd mu 6 G.1) 12 _) 10 _) 11 _ k = mu k
        rw [upd_n k11, upd_n k10, upd_n k12, upd_n k6]
    · unfold vSlideMu
      split <;> rfl
    · unfold vSlideMu
      split
      · exact Or.inl rfl
      · exact Or.inr rfl
    · rcases v1 with v | v
      · refine Or.inl ?_
        unfold vSlideMu
        split
        · show mu 12 + v01 (x.2 15) = mu 12
          rw [v, Int32.add_zero]
        · show mu 12 + v01 (x.2 15) = mu 12
          rw [v, Int32.add_zero]
      · refine Or.inr ?_
        unfold vSlideMu
        split
        · show mu 12 + v01 (x.2 15) = mu 12 + 1
          rw [v]
        · show mu 12 + v01 (x.2 15) = mu 12 + 1
          rw [v]
