/-! THE MOUNTAIN: cells m .. m + 46: itself, its row of lifts, four lifts, its row of runs, eight runs of five cells -/
def LMn (K : Nat → mj_K) (g : Nat → Nat → Option Nat) (m : Nat) : Prop := K m = (2, 1, 0) ∧ g m 0 = some (m + 1) ∧ g m 1 = some (m + 6) ∧ K (m + 1) = (1, 4, 0) ∧ K (m + 6) = (1, 8, 2) ∧
  (∀ i, i < 4 → g (m + 1) i = some (m + 2 + i) ∧ K (m + 2 + i) = (2, 0, 0)) ∧ ∀ i, i < 8 → g (m + 6) i = some (m + 7 + 5 * i) ∧ LRn K g (m + 7 + 5 * i)
abbrev mV : Type := Nat × Nat × (Nat → Int32) × (Nat → Nat → Int32) × (Nat → rV)
def MN (f : Nat → Nat → Int32) (m : Nat) (y : mV) : Prop := y.1 ≤ 4 ∧ y.2.1 ≤ 8 ∧ f m 2 = nI y.1 ∧ f m 3 = nI y.2.1 ∧ (∀ k, 4 ≤ k → k < 16 → f m k = y.2.2.1 k) ∧ (∀ i, i < y.1 → LN f (m + 2 + i) (y.2.2.2.1 i)) ∧ (∀ i, i < y.2.1 → RN f (m + 7 + 5 * i) (y.2.2.2.2 i)) ∧ ∀ i, i < y.2.1 → ∃ j, j < y.1 ∧ (y.2.2.2.2 i).2 1 = nI j
theorem MN.keep {f f1 : Nat → Nat → Int32} {m lo hi : Nat} {y : mV} (h : MN f m y) (hf : mj_Fr lo hi f f1) (hd : m + 47 ≤ lo ∨ hi ≤ m) : MN f1 m y := by
  obtain ⟨n1, n2, n3, n4, n5, n6, n7, n8⟩ := h
  have e := hf m (by omega)
  exact ⟨n1, n2, by rw [e]; exact n3, by rw [e]; exact n4, fun k h1 h2 => by rw [e]; exact n5 k h1 h2, fun i hi => (n6 i hi).keep hf (by omega), fun i hi => (n7 i hi).keep hf (by omega), n8⟩
theorem MN.run {f f1 : Nat → Nat → Int32} {m i lc rc : Nat} {mu : Nat → Int32} {ls : Nat → Nat → Int32} {rs : Nat → rV} {x : rV} (h : MN f m (lc, rc, mu, ls, rs)) (hi : i < rc) (hR : RN f1 (m + 7 + 5 * i) x) (hf : mj_Fr (m + 7 + 5 * i) (m + 12 + 5 * i) f f1) (hl : x.2 1 = (rs i).2 1) : MN f1 m (lc, rc, mu, ls, mj_row rs i x) := by
  obtain ⟨n1, n2, n3, n4, n5, n6, n7, n8⟩ := h
  dsimp only at n1 n2 n3 n4 n5 n6 n7 n8
  have e := hf m (by omega)
  refine ⟨n1, n2, by rw [e]; exact n3, by rw [e]; exact n4, fun k h1 h2 => by rw [e]; exact n5 k h1 h2, fun j hj => (n6 j hj).keep hf (by omega), fun j hj => ?_, fun j hj => ?_⟩
  · show RN f1 (m + 7 + 5 * j) (mj_row rs i x j)
    by_cases hji : j = i
    · subst hji; rw [mj_rowe]; exact hR
    · rw [mj_rown hji]; exact (n7 j hj).keep hf (by omega)
  · show ∃ k, k < lc ∧ (mj_row rs i x j).2 1 = nI k
    by_cases hji : j = i
    · subst hji; rw [mj_rowe, hl]; exact n8 j hj
    · rw [mj_rown hji]; exact n8 j hj
theorem MN.put {f : Nat → Nat → Int32} {m k0 lc rc : Nat} {v : Int32} {mu : Nat → Int32} {ls : Nat → Nat → Int32} {rs : Nat → rV} (h : MN f m (lc, rc, mu, ls, rs)) (hk : 4 ≤ k0) : MN (mj_up f m k0 v) m (lc, rc, upd mu k0 v, ls, rs) := by
  obtain ⟨n1, n2, n3, n4, n5, n6, n7, n8⟩ := h
  dsimp only at n1 n2 n3 n4 n5 n6 n7 n8
  have hf : mj_Fr m (m + 1) f (mj_up f m k0 v) := mj_Fr.up mj_Fr.rf (by omega) (by omega)
  refine ⟨n1, n2, ?_, ?_, fun k h1 h2 => ?_, fun j hj => (n6 j hj).keep hf (by omega), fun j hj => (n7 j hj).keep hf (by omega), n8⟩
  · simp [mj_up, n3, show ¬ 2 = k0 by omega]
  · simp [mj_up, n4, show ¬ 3 = k0 by omega]
  · have e := n5 k h1 h2
    by_cases hkk : k = k0
    · subst hkk; simp [mj_up, upd]
    · simp [mj_up, upd, hkk, e]
theorem MN.lift {f f1 : Nat → Nat → Int32} {m i lc rc : Nat} {mu : Nat → Int32} {ls : Nat → Nat → Int32} {rs : Nat → rV} {z : Nat → Int32} (h : MN f m (lc, rc, mu, ls, rs)) (hi : i < lc) (hR : LN f1 (m + 2 + i) z) (hf : mj_Fr (m + 2 + i) (m + 3 + i) f f1) : MN f1 m (lc, rc, mu, mj_row ls i z, rs) := by
  obtain ⟨n1, n2, n3, n4, n5, n6, n7, n8⟩ := h
  dsimp only at n1 n2 n3 n4 n5 n6 n7 n8
  have e := hf m (by omega)
  refine ⟨n1, n2, by rw [e]; exact n3, by rw [e]; exact n4, fun k h1 h2 => by rw [e]; exact n5 k h1 h2, fun j hj => ?_, fun j hj => (n7 j hj).keep hf (by omega), n8⟩
  show LN f1 (m + 2 + j) (mj_row ls i z j)
  by_cases hji : j = i
  · subst hji; rw [mj_rowe]; exact hR
  · rw [mj_rown hji]; exact (n6 j hj).keep hf (by omega)
/-! what is asked of it -/
def v01 (b : Int32) : Int32 := if b = 0 then 0 else 1
def vOpen (rs : Nat → rV) : Nat → Int32
  | 0 => 0
  | n + 1 => vOpen rs n + v01 ((rs n).2 15)
def vOpenOf (rs : Nat → rV) (l : Int32) : Nat → Int32
  | 0 => 0
  | n + 1 => vOpenOf rs l n + (if ¬ (rs n).2 15 = 0 ∧ (rs n).2 1 = l then 1 else 0)
def vDepthArea (rs : Nat → rV) : Nat → Int32
  | 0 => 0
  | n + 1 => vDepthArea rs n + vDepth 0 (rs n).1 * (rs n).2 5
def vArea (rs : Nat → rV) : Nat → Int32
  | 0 => 0
  | n + 1 => vArea rs n + (rs n).2 5
def vTested (mu : Nat → Int32) (x : rV) : Bool := mu 4 ≤ x.2 12
def vTell (mu : Nat → Int32) (number : Int32) (x : rV) : Int32 := vMax (vRisk (x.2 3) x.1 + ((5 * mu 4 + 3 * number) % 9 - 4)) 0
def vBar (ls : Nat → Nat → Int32) (x : rV) (tested told swept : Int32) : Int32 :=
  if vMoving (ls (x.2 1).toNatClampNeg) = false then 1 else if 0 < x.2 10 then 2 else if ¬ x.2 16 = 0 then 3 else if tested = 0 then 4 else if 30 < told then 5 else if vDepth 0 x.1 < 30 then 6 else if swept = 0 then 7 else 0
def vBarNow (mu : Nat → Int32) (ls : Nat → Nat → Int32) (x : rV) : Int32 := vBar ls x (if vTested mu x = true then 1 else 0) (x.2 11) (x.2 17)
/-! what an hour does -/
def vSlideSize (x : rV) : Int32 := vSize (vShear (x.2 3) x.1) (x.2 5) x.1
def vSlideRun (x : rV) : rV := (vDrop (vShear (x.2 3) x.1) x.1, upd (upd (upd x.2 12 (-1)) 17 0) 9 (x.2 9 + 1))
def vSlideMu (mu : Nat → Int32) (size : Int32) : Nat → Int32 := if size < 900 then upd mu 10 (mu 10 + 1) else upd (upd mu 10 (mu 10 + 1)) 11 (mu 11 + 1)
def vGuns (each : Int32) : Nat → Int32 → Int32 → Int32 × Int32
  | 0, w, h => (w, h)
  | n + 1, w, h => if w < 105 then (w, h) else vGuns each n (w - 5) (h + each)
def vPile (made : Int32) (x : sV) : sV := if 0 < made then (if vTop 3 x = true then vThicken made x else vLay 3 made 40 x) else x
def vMakeG (bulb guns w h : Int32) : Int32 × Int32 := if -4 < bulb then (w, h) else vGuns (vMin (-3 - bulb) 6) guns.toNatClampNeg w h
def vMade (h area : Int32) : Int32 := if 1 ≤ area then h / area else 0
def vMakeRun (h : Int32) (x : rV) : rV := (vPile (vMade h (x.2 5)) x.1, upd x.2 7 (h - vMade h (x.2 5) * x.2 5))
def vThinN : Nat → sV → sV
  | 0, x => x
  | n + 1, x => vThinN n (vThin 1 x)
def vSkiRun (riders : Int32) (x : rV) : rV := (vThinN ((x.2 8 + riders) / 200 - x.2 8 / 200).toNatClampNeg x.1, upd x.2 8 (x.2 8 + riders))
def vSkiMu (riders : Int32) (mu : Nat → Int32) (x : rV) : Nat → Int32 := upd mu 13 (mu 13 + (if x.2 5 * 40 < riders then 1 else 0) + (if vTop 2 x.1 = true then riders / 50 else 0))

set_option maxHeartbeats 4000000 in
set_option maxRecDepth 100000 in
theorem s_oneIf {d : Nat} {b : Int32} {h : mj_H} : mj_Ci m_X5_oneIf d [.int b] h (fun r h1 => h1 = h ∧ r = v01 b) := by
  refine mj_entry (by refine ⟨by decide +kernel, by decide, rfl, Nat.le_of_ble_eq_true rfl⟩) ?_
  show mj_W _ _ _ _ _ 0 [.int b] [] _
  refine mj_iload_n (i := 0) (q := 1) dX5_oneIf_0 rfl rfl rfl ?_
  refine mj_if_eq (tgt := 8) (q := 4) dX5_oneIf_1 (by decide) rfl (fun c_1 => ?_) (fun c_1 => ?_)
  · refine mj_num1 (v := 0) (q := 9) rfl dX5_oneIf_8 rfl ?_
    exact mj_ireturn dX5_oneIf_9 ⟨_, rfl, rfl⟩ ⟨_, rfl, rfl, by simp only [v01]; rw [if_pos c_1]⟩
  · refine mj_num1 (v := 1) (q := 5) rfl dX5_oneIf_4 rfl ?_
    refine mj_goto (q := 9) dX5_oneIf_5 (by decide) ?_
    exact mj_ireturn dX5_oneIf_9 ⟨_, rfl, rfl⟩ ⟨_, rfl, rfl, by simp only [v01]; rw [if_neg c_1]⟩
set_option maxHeartbeats 4000000 in
set_option maxRecDepth 100000 in
theorem s_clock {d m : Nat} {n : Nat} {K : Nat → mj_K} {f : Nat → Nat → Int32} {g : Nat → Nat → Option Nat} {y : mV} (hL : LMn K g m) (hN : MN f m y) : mj_Ci m_X1_clock d [.ref m] (n, K, f, g) (fun r h1 => h1 = (n, K, f, g) ∧ r = y.2.2.1 4 % 24) := by
  have hL2 := hL
  have hN2 := hN
  obtain ⟨km, gm0, gm1, km1, km6, hLl, hLr⟩ := hL
  obtain ⟨lc, rc, mu, ls, rs⟩ := y
  obtain ⟨n1, n2, n3, n4, n5, n6, n7, n8⟩ := hN
  dsimp only at n1 n2 n3 n4 n5 n6 n7 n8
  have u4 : f m 4 = mu 4 := n5 4 (by omega) (by omega)
  refine mj_entry (by refine ⟨by decide +kernel, by decide, rfl, Nat.le_of_ble_eq_true rfl⟩) ?_
  show mj_W _ _ _ _ _ 0 [.ref m] [] _
  refine mj_aload_n (i := 0) (q := 1) dX1_clock_0 rfl rfl rfl ?_
  refine mj_getfv (q := 4) dX1_clock_1 fl_X1_48 rfl rfl (by assumption) (by assumption) ?_
  refine mj_num2 (v := 24) (q := 6) (by decide) dX1_clock_4 rfl ?_
  refine mj_irem (q := 7) (by decide) dX1_clock_6 rfl ?_
  exact mj_ireturn dX1_clock_7 ⟨_, rfl, rfl⟩ ⟨_, rfl, ⟨rfl, rfl⟩⟩
set_option maxHeartbeats 4000000 in
set_option maxRecDepth 100000 in
theorem s_openRuns {d m : Nat}  {n : Nat} {K : Nat → mj_K} {f : Nat → Nat → Int32} {g : Nat → Nat → Option Nat} {y : mV} (hL : LMn K g m) (hN : MN f m y) : mj_Ci m_X1_openRuns (d + 1) [.ref m] (n, K, f, g) (fun r h1 => h1 = (n, K, f, g) ∧ r = vOpen y.2.2.2.2 y.2.1) := by
  have hL2 := hL
  have hN2 := hN
  obtain ⟨km, gm0, gm1, km1, km6, hLl, hLr⟩ := hL
  obtain ⟨lc, rc, mu, ls, rs⟩ := y
  obtain ⟨n1, n2, n3, n4, n5, n6, n7, n8⟩ := hN
  dsimp only at n1 n2 n3 n4 n5 n6 n7 n8
  have key : ∀ (j i : Nat), i + j = rc → mj_W m_X1_openRuns (d + 1) 0 0 (fun v h1 => ∃ r, v = some (.int r) ∧ h1 = (n, K, f, g) ∧ r = vOpen rs rc) 4 [.ref m, .int (vOpen rs i), .int (nI i)] [] (n, K, f, g) := by
    intro j
    induction j with
    | zero =>
      intro i hi
      have hi : i = rc := by omega
      subst hi
      refine mj_iload_n (i := 2) (q := 5) dX1_openRuns_4 rfl rfl rfl ?_
      refine mj_aload_n (i := 0) (q := 6) dX1_openRuns_5 rfl rfl rfl ?_
      refine mj_getfv (q := 9) dX1_openRuns_6 fl_X1_42 rfl rfl (by assumption) (by assumption) ?_
      refine mj_icmp_ge (tgt := 33) (q := 12) dX1_openRuns_9 (by decide) rfl (fun c_9 => ?_) (fun c_9 => absurd (Int32.le_refl _) c_9)
      refine mj_iload_n (i := 1) (q := 34) dX1_openRuns_33 rfl rfl rfl ?_
      exact mj_ireturn dX1_openRuns_34 ⟨_, rfl, rfl⟩ ⟨_, rfl, ⟨rfl, rfl⟩⟩
    | succ j ih =>
      intro i hi
      have hg_i : g (m + 6) i = some (m + 7 + 5 * i) := (hLr i (by omega)).1
      have hL_i := (hLr i (by omega)).2
      have kr_i : K (m + 7 + 5 * i) = (2, 2, 0) := hL_i.1
      have gr_i : g (m + 7 + 5 * i) 0 = some ((m + 7 + 5 * i) + 1) := hL_i.2.1
      have ks_i : K ((m + 7 + 5 * i) + 1) = (2, 3, 0) := hL_i.2.2.1
      have hR_i := n7 i (by omega)
      have e15_i : f (m + 7 + 5 * i) 15 = (rs i).2 15 := hR_i.2.1 15 (by omega) (by omega)
      refine mj_iload_n (i := 2) (q := 5) dX1_openRuns_4 rfl rfl rfl ?_
      refine mj_aload_n (i := 0) (q := 6) dX1_openRuns_5 rfl rfl rfl ?_
      refine mj_getfv (q := 9) dX1_openRuns_6 fl_X1_42 rfl rfl (by assumption) (by assumption) ?_
      refine mj_icmp_ge (tgt := 33) (q := 12) dX1_openRuns_9 (by decide) rfl (fun c_9 => absurd c_9 (nI_ge (a := i) (b := rc) (by omega) (by omega))) (fun c_9 => ?_)
      refine mj_iload_n (i := 1) (q := 13) dX1_openRuns_12 rfl rfl rfl ?_
      refine mj_aload_n (i := 0) (q := 14) dX1_openRuns_13 rfl rfl rfl ?_
      refine mj_getr (q := 17) dX1_openRuns_14 fl_X1_20 rfl rfl (by assumption) (by assumption) ?_
      refine mj_iload_n (i := 2) (q := 18) dX1_openRuns_17 rfl rfl rfl ?_
      refine mj_aaldn (q := 19) dX1_openRuns_18 rfl (by assumption) ⟨by omega, by omega⟩ (by assumption) ?_
      refine mj_getfv (q := 22) dX1_openRuns_19 fl_X1_78 rfl rfl (by assumption) (by assumption) ?_
      refine mj_cSN1i (K := m_X5_oneIf) (q := 25) dX1_openRuns_22 (fun _ z => z.2.2.1) ok_X5_oneIf (Nat.le_of_ble_eq_true rfl) (by decide) rfl (s_oneIf) (fun r_22 h1 hq => ?_)
      obtain ⟨rfl, rfl⟩ := hq
      refine mj_iadd (q := 26) dX1_openRuns_25 rfl ?_
      refine mj_istore_n (i := 1) (q := 27) dX1_openRuns_26 rfl rfl (by decide) rfl ?_
      dsimp only [List.set]
      refine mj_iinc (i := 2) (q := 30) dX1_openRuns_27 rfl rfl (by decide) rfl ?_
      dsimp only [List.set]
      refine mj_goto (q := 4) dX1_openRuns_30 (by decide) ?_
      rw [show nI i + Int32.ofInt 1 = nI (i + 1) from nI_1 i]
      exact ih (i + 1) (by omega)
  refine mj_entry (by refine ⟨by decide +kernel, by decide, rfl, Nat.le_of_ble_eq_true rfl⟩) ?_
  show mj_W _ _ _ _ _ 0 [.ref m, .null, .null] [] _
  refine mj_num1 (v := 0) (q := 1) rfl dX1_openRuns_0 rfl ?_
  refine mj_istore_n (i := 1) (q := 2) dX1_openRuns_1 rfl rfl (by decide) rfl ?_
  dsimp only [List.set]
  refine mj_num1 (v := nI 0) (q := 3) (by decide) dX1_openRuns_2 rfl ?_
  refine mj_istore_n (i := 2) (q := 4) dX1_openRuns_3 rfl rfl (by decide) rfl ?_
  dsimp only [List.set]
  exact key rc 0 (by omega)
set_option maxHeartbeats 4000000 in
set_option maxRecDepth 100000 in
theorem s_openRunsOf {d m : Nat} {l : Int32} {n : Nat} {K : Nat → mj_K} {f : Nat → Nat → Int32} {g : Nat → Nat → Option Nat} {y : mV} (hL : LMn K g m) (hN : MN f m y) : mj_Ci m_X1_openRunsOf (d + 1) [.ref m, .int l] (n, K, f, g) (fun r h1 => h1 = (n, K, f, g) ∧ r = vOpenOf y.2.2.2.2 l y.2.1) := by
  have hL2 := hL
  have hN2 := hN
  obtain ⟨km, gm0, gm1, km1, km6, hLl, hLr⟩ := hL
  obtain ⟨lc, rc, mu, ls, rs⟩ := y
  obtain ⟨n1, n2, n3, n4, n5, n6, n7, n8⟩ := hN
  dsimp only at n1 n2 n3 n4 n5 n6 n7 n8
  have key : ∀ (j i : Nat), i + j = rc → mj_W m_X1_openRunsOf (d + 1) 0 0 (fun v h1 => ∃ r, v = some (.int r) ∧ h1 = (n, K, f, g) ∧ r = vOpenOf rs l rc) 4 [.ref m, .int l, .int (vOpenOf rs l i), .int (nI i)] [] (n, K, f, g) := by
    intro j
    induction j with
    | zero =>
      intro i hi
      have hi : i = rc := by omega
      subst hi
      refine mj_iload_n (i := 3) (q := 5) dX1_openRunsOf_4 rfl rfl rfl ?_
      refine mj_aload_n (i := 0) (q := 6) dX1_openRunsOf_5 rfl rfl rfl ?_
      refine mj_getfv (q := 9) dX1_openRunsOf_6 fl_X1_42 rfl rfl (by assumption) (by assumption) ?_
      refine mj_icmp_ge (tgt := 54) (q := 12) dX1_openRunsOf_9 (by decide) rfl (fun c_9 => ?_) (fun c_9 => absurd (Int32.le_refl _) c_9)
      refine mj_iload_n (i := 2) (q := 55) dX1_openRunsOf_54 rfl rfl rfl ?_
      exact mj_ireturn dX1_openRunsOf_55 ⟨_, rfl, rfl⟩ ⟨_, rfl, ⟨rfl, rfl⟩⟩
    | succ j ih =>
      intro i hi
      have hg_i : g (m + 6) i = some (m + 7 + 5 * i) := (hLr i (by omega)).1
      have hL_i := (hLr i (by omega)).2
      have kr_i : K (m + 7 + 5 * i) = (2, 2, 0) := hL_i.1
      have gr_i : g (m + 7 + 5 * i) 0 = some ((m + 7 + 5 * i) + 1) := hL_i.2.1
      have ks_i : K ((m + 7 + 5 * i) + 1) = (2, 3, 0) := hL_i.2.2.1
      have hR_i := n7 i (by omega)
      have e15_i : f (m + 7 + 5 * i) 15 = (rs i).2 15 := hR_i.2.1 15 (by omega) (by omega)
      have e1_i : f (m + 7 + 5 * i) 1 = (rs i).2 1 := hR_i.2.1 1 (by omega) (by omega)
      refine mj_iload_n (i := 3) (q := 5) dX1_openRunsOf_4 rfl rfl rfl ?_
      refine mj_aload_n (i := 0) (q := 6) dX1_openRunsOf_5 rfl rfl rfl ?_
      refine mj_getfv (q := 9) dX1_openRunsOf_6 fl_X1_42 rfl rfl (by assumption) (by assumption) ?_
      refine mj_icmp_ge (tgt := 54) (q := 12) dX1_openRunsOf_9 (by decide) rfl (fun c_9 => absurd c_9 (nI_ge (a := i) (b := rc) (by omega) (by omega))) (fun c_9 => ?_)
      refine mj_iload_n (i := 2) (q := 13) dX1_openRunsOf_12 rfl rfl rfl ?_
      refine mj_aload_n (i := 0) (q := 14) dX1_openRunsOf_13 rfl rfl rfl ?_
      refine mj_getr (q := 17) dX1_openRunsOf_14 fl_X1_20 rfl rfl (by assumption) (by assumption) ?_
      refine mj_iload_n (i := 3) (q := 18) dX1_openRunsOf_17 rfl rfl rfl ?_
      refine mj_aaldn (q := 19) dX1_openRunsOf_18 rfl (by assumption) ⟨by omega, by omega⟩ (by assumption) ?_
      refine mj_getfv (q := 22) dX1_openRunsOf_19 fl_X1_78 rfl rfl (by assumption) (by assumption) ?_
      refine mj_if_eq (tgt := 42) (q := 25) dX1_openRunsOf_22 (by decide) rfl (fun c_22 => ?_) (fun c_22 => ?_)
      · refine mj_num1 (v := 0) (q := 43) rfl dX1_openRunsOf_42 rfl ?_
        refine mj_cSN1i (K := m_X5_oneIf) (q := 46) dX1_openRunsOf_43 (fun _ z => z.2.2.1) ok_X5_oneIf (Nat.le_of_ble_eq_true rfl) (by decide) rfl (s_oneIf) (fun r_43 h1 hq => ?_)
        obtain ⟨rfl, rfl⟩ := hq
        refine mj_iadd (q := 47) dX1_openRunsOf_46 rfl ?_
        refine mj_istore_n (i := 2) (q := 48) dX1_openRunsOf_47 rfl rfl (by decide) rfl ?_
        dsimp only [List.set]
        refine mj_iinc (i := 3) (q := 51) dX1_openRunsOf_48 rfl rfl (by decide) rfl ?_
        dsimp only [List.set]
        refine mj_goto (q := 4) dX1_openRunsOf_51 (by decide) ?_
        rw [show nI i + Int32.ofInt 1 = nI (i + 1) from nI_1 i]
        have e : vOpenOf rs l i + v01 0 = vOpenOf rs l (i + 1) := by simp only [vOpenOf]; rw [if_neg (fun z => z.1 c_22)]; rfl
        rw [e]
        exact ih (i + 1) (by omega)
      · refine mj_aload_n (i := 0) (q := 26) dX1_openRunsOf_25 rfl rfl rfl ?_
        refine mj_getr (q := 29) dX1_openRunsOf_26 fl_X1_20 rfl rfl (by assumption) (by assumption) ?_
        refine mj_iload_n (i := 3) (q := 30) dX1_openRunsOf_29 rfl rfl rfl ?_
        refine mj_aaldn (q := 31) dX1_openRunsOf_30 rfl (by assumption) ⟨by omega, by omega⟩ (by assumption) ?_
        refine mj_getfv (q := 34) dX1_openRunsOf_31 fl_X1_86 rfl rfl (by assumption) (by assumption) ?_
        refine mj_iload_n (i := 1) (q := 35) dX1_openRunsOf_34 rfl rfl rfl ?_
        refine mj_icmp_ne (tgt := 42) (q := 38) dX1_openRunsOf_35 (by decide) rfl (fun c_35 => ?_) (fun c_35 => ?_)
        · refine mj_num1 (v := 0) (q := 43) rfl dX1_openRunsOf_42 rfl ?_
          refine mj_cSN1i (K := m_X5_oneIf) (q := 46) dX1_openRunsOf_43 (fun _ z => z.2.2.1) ok_X5_oneIf (Nat.le_of_ble_eq_true rfl) (by decide) rfl (s_oneIf) (fun r_43 h1 hq => ?_)
          obtain ⟨rfl, rfl⟩ := hq
          refine mj_iadd (q := 47) dX1_openRunsOf_46 rfl ?_
          refine mj_istore_n (i := 2) (q := 48) dX1_openRunsOf_47 rfl rfl (by decide) rfl ?_
          dsimp only [List.set]
          refine mj_iinc (i := 3) (q := 51) dX1_openRunsOf_48 rfl rfl (by decide) rfl ?_
          dsimp only [List.set]
          refine mj_goto (q := 4) dX1_openRunsOf_51 (by decide) ?_
          rw [show nI i + Int32.ofInt 1 = nI (i + 1) from nI_1 i]
          have e : vOpenOf rs l i + v01 0 = vOpenOf rs l (i + 1) := by simp only [vOpenOf]; rw [if_neg (fun z => c_35 z.2)]; rfl
          rw [e]
          exact ih (i + 1) (by omega)
        · refine mj_num1 (v := 1) (q := 39) rfl dX1_openRunsOf_38 rfl ?_
          refine mj_goto (q := 43) dX1_openRunsOf_39 (by decide) ?_
          refine mj_cSN1i (K := m_X5_oneIf) (q := 46) dX1_openRunsOf_43 (fun _ z => z.2.2.1) ok_X5_oneIf (Nat.le_of_ble_eq_true rfl) (by decide) rfl (s_oneIf) (fun r_43 h1 hq => ?_)
          obtain ⟨rfl, rfl⟩ := hq
          refine mj_iadd (q := 47) dX1_openRunsOf_46 rfl ?_
          refine mj_istore_n (i := 2) (q := 48) dX1_openRunsOf_47 rfl rfl (by decide) rfl ?_
          dsimp only [List.set]
          refine mj_iinc (i := 3) (q := 51) dX1_openRunsOf_48 rfl rfl (by decide) rfl ?_
          dsimp only [List.set]
          refine mj_goto (q := 4) dX1_openRunsOf_51 (by decide) ?_
          rw [show nI i + Int32.ofInt 1 = nI (i + 1) from nI_1 i]
          have e : vOpenOf rs l i + v01 1 = vOpenOf rs l (i + 1) := by simp only [vOpenOf]; rw [if_pos (show ¬ (rs i).2 15 = 0 ∧ (rs i).2 1 = l from ⟨c_22, c_35⟩)]; rfl
          rw [e]
          exact ih (i + 1) (by omega)
  refine mj_entry (by refine ⟨by decide +kernel, by decide, rfl, Nat.le_of_ble_eq_true rfl⟩) ?_
  show mj_W _ _ _ _ _ 0 [.ref m, .int l, .null, .null] [] _
  refine mj_num1 (v := 0) (q := 1) rfl dX1_openRunsOf_0 rfl ?_
  refine mj_istore_n (i := 2) (q := 2) dX1_openRunsOf_1 rfl rfl (by decide) rfl ?_
  dsimp only [List.set]
  refine mj_num1 (v := nI 0) (q := 3) (by decide) dX1_openRunsOf_2 rfl ?_
  refine mj_istore_n (i := 3) (q := 4) dX1_openRunsOf_3 rfl rfl (by decide) rfl ?_
  dsimp only [List.set]
  exact key rc 0 (by omega)
set_option maxHeartbeats 4000000 in
set_option maxRecDepth 100000 in
theorem s_depthByArea {d m : Nat}  {n : Nat} {K : Nat → mj_K} {f : Nat → Nat → Int32} {g : Nat → Nat → Option Nat} {y : mV} (hL : LMn K g m) (hN : MN f m y) : mj_Ci m_X1_depthByArea (d + 3) [.ref m] (n, K, f, g) (fun r h1 => h1 = (n, K, f, g) ∧ r = vDepthArea y.2.2.2.2 y.2.1) := by
  have hL2 := hL
  have hN2 := hN
  obtain ⟨km, gm0, gm1, km1, km6, hLl, hLr⟩ := hL
  obtain ⟨lc, rc, mu, ls, rs⟩ := y
  obtain ⟨n1, n2, n3, n4, n5, n6, n7, n8⟩ := hN
  dsimp only at n1 n2 n3 n4 n5 n6 n7 n8
  have key : ∀ (j i : Nat), i + j = rc → mj_W m_X1_depthByArea (d + 3) 0 0 (fun v h1 => ∃ r, v = some (.int r) ∧ h1 = (n, K, f, g) ∧ r = vDepthArea rs rc) 4 [.ref m, .int (vDepthArea rs i), .int (nI i)] [] (n, K, f, g) := by
    intro j
    induction j with
    | zero =>
      intro i hi
      have hi : i = rc := by omega
      subst hi
      refine mj_iload_n (i := 2) (q := 5) dX1_depthByArea_4 rfl rfl rfl ?_
      refine mj_aload_n (i := 0) (q := 6) dX1_depthByArea_5 rfl rfl rfl ?_
      refine mj_getfv (q := 9) dX1_depthByArea_6 fl_X1_42 rfl rfl (by assumption) (by assumption) ?_
      refine mj_icmp_ge (tgt := 43) (q := 12) dX1_depthByArea_9 (by decide) rfl (fun c_9 => ?_) (fun c_9 => absurd (Int32.le_refl _) c_9)
      refine mj_iload_n (i := 1) (q := 44) dX1_depthByArea_43 rfl rfl rfl ?_
      exact mj_ireturn dX1_depthByArea_44 ⟨_, rfl, rfl⟩ ⟨_, rfl, ⟨rfl, rfl⟩⟩
    | succ j ih =>
      intro i hi
      have hg_i : g (m + 6) i = some (m + 7 + 5 * i) := (hLr i (by omega)).1
      have hL_i := (hLr i (by omega)).2
      have kr_i : K (m + 7 + 5 * i) = (2, 2, 0) := hL_i.1
      have gr_i : g (m + 7 + 5 * i) 0 = some ((m + 7 + 5 * i) + 1) := hL_i.2.1
      have ks_i : K ((m + 7 + 5 * i) + 1) = (2, 3, 0) := hL_i.2.2.1
      have hR_i := n7 i (by omega)
      have e5_i : f (m + 7 + 5 * i) 5 = (rs i).2 5 := hR_i.2.1 5 (by omega) (by omega)
      refine mj_iload_n (i := 2) (q := 5) dX1_depthByArea_4 rfl rfl rfl ?_
      refine mj_aload_n (i := 0) (q := 6) dX1_depthByArea_5 rfl rfl rfl ?_
      refine mj_getfv (q := 9) dX1_depthByArea_6 fl_X1_42 rfl rfl (by assumption) (by assumption) ?_
      refine mj_icmp_ge (tgt := 43) (q := 12) dX1_depthByArea_9 (by decide) rfl (fun c_9 => absurd c_9 (nI_ge (a := i) (b := rc) (by omega) (by omega))) (fun c_9 => ?_)
      refine mj_iload_n (i := 1) (q := 13) dX1_depthByArea_12 rfl rfl rfl ?_
      refine mj_aload_n (i := 0) (q := 14) dX1_depthByArea_13 rfl rfl rfl ?_
      refine mj_getr (q := 17) dX1_depthByArea_14 fl_X1_20 rfl rfl (by assumption) (by assumption) ?_
      refine mj_iload_n (i := 2) (q := 18) dX1_depthByArea_17 rfl rfl rfl ?_
      refine mj_aaldn (q := 19) dX1_depthByArea_18 rfl (by assumption) ⟨by omega, by omega⟩ (by assumption) ?_
      refine mj_getr (q := 22) dX1_depthByArea_19 fl_X1_89 rfl rfl (by assumption) (by assumption) ?_
      refine mj_cV0i (K := m_X3_wholeDepth) (q := 25) dX1_depthByArea_22 ln_X1_93 ok_X3_wholeDepth (Nat.le_of_ble_eq_true rfl) (by decide) (by assumption) rfl rfl (s_wholeDepth hL_i.2.2 hR_i.1) (fun r_22 h1 hq => ?_)
      obtain ⟨rfl, rfl⟩ := hq
      refine mj_aload_n (i := 0) (q := 26) dX1_depthByArea_25 rfl rfl rfl ?_
      refine mj_getr (q := 29) dX1_depthByArea_26 fl_X1_20 rfl rfl (by assumption) (by assumption) ?_
      refine mj_iload_n (i := 2) (q := 30) dX1_depthByArea_29 rfl rfl rfl ?_
      refine mj_aaldn (q := 31) dX1_depthByArea_30 rfl (by assumption) ⟨by omega, by omega⟩ (by assumption) ?_
      refine mj_getfv (q := 34) dX1_depthByArea_31 fl_X1_99 rfl rfl (by assumption) (by assumption) ?_
      refine mj_imul (q := 35) dX1_depthByArea_34 rfl ?_
      refine mj_iadd (q := 36) dX1_depthByArea_35 rfl ?_
      refine mj_istore_n (i := 1) (q := 37) dX1_depthByArea_36 rfl rfl (by decide) rfl ?_
      dsimp only [List.set]
      refine mj_iinc (i := 2) (q := 40) dX1_depthByArea_37 rfl rfl (by decide) rfl ?_
      dsimp only [List.set]
      refine mj_goto (q := 4) dX1_depthByArea_40 (by decide) ?_
      rw [show nI i + Int32.ofInt 1 = nI (i + 1) from nI_1 i]
      exact ih (i + 1) (by omega)
  refine mj_entry (by refine ⟨by decide +kernel, by decide, rfl, Nat.le_of_ble_eq_true rfl⟩) ?_
  show mj_W _ _ _ _ _ 0 [.ref m, .null, .null] [] _
  refine mj_num1 (v := 0) (q := 1) rfl dX1_depthByArea_0 rfl ?_
  refine mj_istore_n (i := 1) (q := 2) dX1_depthByArea_1 rfl rfl (by decide) rfl ?_
  dsimp only [List.set]
  refine mj_num1 (v := nI 0) (q := 3) (by decide) dX1_depthByArea_2 rfl ?_
  refine mj_istore_n (i := 2) (q := 4) dX1_depthByArea_3 rfl rfl (by decide) rfl ?_
  dsimp only [List.set]
  exact key rc 0 (by omega)
set_option maxHeartbeats 4000000 in
set_option maxRecDepth 100000 in
theorem s_wholeArea {d m : Nat}  {n : Nat} {K : Nat → mj_K} {f : Nat → Nat → Int32} {g : Nat → Nat → Option Nat} {y : mV} (hL : LMn K g m) (hN : MN f m y) : mj_Ci m_X1_wholeArea (d + 1) [.ref m] (n, K, f, g) (fun r h1 => h1 = (n, K, f, g) ∧ r = vArea y.2.2.2.2 y.2.1) := by
  have hL2 := hL
  have hN2 := hN
  obtain ⟨km, gm0, gm1, km1, km6, hLl, hLr⟩ := hL
  obtain ⟨lc, rc, mu, ls, rs⟩ := y
  obtain ⟨n1, n2, n3, n4, n5, n6, n7, n8⟩ := hN
  dsimp only at n1 n2 n3 n4 n5 n6 n7 n8
  have key : ∀ (j i : Nat), i + j = rc → mj_W m_X1_wholeArea (d + 1) 0 0 (fun v h1 => ∃ r, v = some (.int r) ∧ h1 = (n, K, f, g) ∧ r = vArea rs rc) 4 [.ref m, .int (vArea rs i), .int (nI i)] [] (n, K, f, g) := by
    intro j
    induction j with
    | zero =>
      intro i hi
      have hi : i = rc := by omega
      subst hi
      refine mj_iload_n (i := 2) (q := 5) dX1_wholeArea_4 rfl rfl rfl ?_
      refine mj_aload_n (i := 0) (q := 6) dX1_wholeArea_5 rfl rfl rfl ?_
      refine mj_getfv (q := 9) dX1_wholeArea_6 fl_X1_42 rfl rfl (by assumption) (by assumption) ?_
      refine mj_icmp_ge (tgt := 30) (q := 12) dX1_wholeArea_9 (by decide) rfl (fun c_9 => ?_) (fun c_9 => absurd (Int32.le_refl _) c_9)
      refine mj_iload_n (i := 1) (q := 31) dX1_wholeArea_30 rfl rfl rfl ?_
      exact mj_ireturn dX1_wholeArea_31 ⟨_, rfl, rfl⟩ ⟨_, rfl, ⟨rfl, rfl⟩⟩
    | succ j ih =>
      intro i hi
      have hg_i : g (m + 6) i = some (m + 7 + 5 * i) := (hLr i (by omega)).1
      have hL_i := (hLr i (by omega)).2
      have kr_i : K (m + 7 + 5 * i) = (2, 2, 0) := hL_i.1
      have gr_i : g (m + 7 + 5 * i) 0 = some ((m + 7 + 5 * i) + 1) := hL_i.2.1
      have ks_i : K ((m + 7 + 5 * i) + 1) = (2, 3, 0) := hL_i.2.2.1
      have hR_i := n7 i (by omega)
      have e5_i : f (m + 7 + 5 * i) 5 = (rs i).2 5 := hR_i.2.1 5 (by omega) (by omega)
      refine mj_iload_n (i := 2) (q := 5) dX1_wholeArea_4 rfl rfl rfl ?_
      refine mj_aload_n (i := 0) (q := 6) dX1_wholeArea_5 rfl rfl rfl ?_
      refine mj_getfv (q := 9) dX1_wholeArea_6 fl_X1_42 rfl rfl (by assumption) (by assumption) ?_
      refine mj_icmp_ge (tgt := 30) (q := 12) dX1_wholeArea_9 (by decide) rfl (fun c_9 => absurd c_9 (nI_ge (a := i) (b := rc) (by omega) (by omega))) (fun c_9 => ?_)
      refine mj_iload_n (i := 1) (q := 13) dX1_wholeArea_12 rfl rfl rfl ?_
      refine mj_aload_n (i := 0) (q := 14) dX1_wholeArea_13 rfl rfl rfl ?_
      refine mj_getr (q := 17) dX1_wholeArea_14 fl_X1_20 rfl rfl (by assumption) (by assumption) ?_
      refine mj_iload_n (i := 2) (q := 18) dX1_wholeArea_17 rfl rfl rfl ?_
      refine mj_aaldn (q := 19) dX1_wholeArea_18 rfl (by assumption) ⟨by omega, by omega⟩ (by assumption) ?_
      refine mj_getfv (q := 22) dX1_wholeArea_19 fl_X1_99 rfl rfl (by assumption) (by assumption) ?_
      refine mj_iadd (q := 23) dX1_wholeArea_22 rfl ?_
      refine mj_istore_n (i := 1) (q := 24) dX1_wholeArea_23 rfl rfl (by decide) rfl ?_
      dsimp only [List.set]
      refine mj_iinc (i := 2) (q := 27) dX1_wholeArea_24 rfl rfl (by decide) rfl ?_
      dsimp only [List.set]
      refine mj_goto (q := 4) dX1_wholeArea_27 (by decide) ?_
      rw [show nI i + Int32.ofInt 1 = nI (i + 1) from nI_1 i]
      exact ih (i + 1) (by omega)
  refine mj_entry (by refine ⟨by decide +kernel, by decide, rfl, Nat.le_of_ble_eq_true rfl⟩) ?_
  show mj_W _ _ _ _ _ 0 [.ref m, .null, .null] [] _
  refine mj_num1 (v := 0) (q := 1) rfl dX1_wholeArea_0 rfl ?_
  refine mj_istore_n (i := 1) (q := 2) dX1_wholeArea_1 rfl rfl (by decide) rfl ?_
  dsimp only [List.set]
  refine mj_num1 (v := nI 0) (q := 3) (by decide) dX1_wholeArea_2 rfl ?_
  refine mj_istore_n (i := 2) (q := 4) dX1_wholeArea_3 rfl rfl (by decide) rfl ?_
  dsimp only [List.set]
  exact key rc 0 (by omega)
set_option maxHeartbeats 4000000 in
set_option maxRecDepth 100000 in
theorem s_isTested {d m i : Nat} {n : Nat} {K : Nat → mj_K} {f : Nat → Nat → Int32} {g : Nat → Nat → Option Nat} {y : mV} (hL : LMn K g m) (hN : MN f m y) (hi : i < y.2.1) : mj_Ci m_X1_isTested d [.ref m, .ref (m + 7 + 5 * i)] (n, K, f, g) (fun r h1 => h1 = (n, K, f, g) ∧ r = if vTested y.2.2.1 (y.2.2.2.2 i) = true then 1 else 0) := by
  have hL2 := hL
  have hN2 := hN
  obtain ⟨km, gm0, gm1, km1, km6, hLl, hLr⟩ := hL
  obtain ⟨lc, rc, mu, ls, rs⟩ := y
  obtain ⟨n1, n2, n3, n4, n5, n6, n7, n8⟩ := hN
  dsimp only at n1 n2 n3 n4 n5 n6 n7 n8
  have hi : i < rc := hi
  have u4 : f m 4 = mu 4 := n5 4 (by omega) (by omega)
  have hg_i : g (m + 6) i = some (m + 7 + 5 * i) := (hLr i (by omega)).1
  have hL_i := (hLr i (by omega)).2
  have kr_i : K (m + 7 + 5 * i) = (2, 2, 0) := hL_i.1
  have gr_i : g (m + 7 + 5 * i) 0 = some ((m + 7 + 5 * i) + 1) := hL_i.2.1
  have ks_i : K ((m + 7 + 5 * i) + 1) = (2, 3, 0) := hL_i.2.2.1
  have hR_i := n7 i (by omega)
  have e12_i : f (m + 7 + 5 * i) 12 = (rs i).2 12 := hR_i.2.1 12 (by omega) (by omega)
  refine mj_entry (by refine ⟨by decide +kernel, by decide, rfl, Nat.le_of_ble_eq_true rfl⟩) ?_
  show mj_W _ _ _ _ _ 0 [.ref m, .ref (m + 7 + 5 * i)] [] _
  refine mj_aload_n (i := 0) (q := 1) dX1_isTested_0 rfl rfl rfl ?_
  refine mj_getfv (q := 4) dX1_isTested_1 fl_X1_48 rfl rfl (by assumption) (by assumption) ?_
  refine mj_aload_n (i := 1) (q := 5) dX1_isTested_4 rfl rfl rfl ?_
  refine mj_getfv (q := 8) dX1_isTested_5 fl_X1_102 rfl rfl (by assumption) (by assumption) ?_
  refine mj_icmp_gt (tgt := 15) (q := 11) dX1_isTested_8 (by decide) rfl (fun c_8 => ?_) (fun c_8 => ?_)
  · refine mj_num1 (v := 0) (q := 16) rfl dX1_isTested_15 rfl ?_
    exact mj_ireturn dX1_isTested_16 ⟨_, rfl, rfl⟩ ⟨_, rfl, rfl, by simp only [vTested, decide_eq_true_eq]; rw [if_neg (Int32.not_le.mpr c_8)]⟩
  · refine mj_num1 (v := 1) (q := 12) rfl dX1_isTested_11 rfl ?_
    refine mj_goto (q := 16) dX1_isTested_12 (by decide) ?_
    exact mj_ireturn dX1_isTested_16 ⟨_, rfl, rfl⟩ ⟨_, rfl, rfl, by simp only [vTested, decide_eq_true_eq]; rw [if_pos (Int32.not_lt.mp c_8)]⟩
set_option maxHeartbeats 4000000 in
set_option maxRecDepth 100000 in
theorem s_wouldTell {d m i : Nat} {num : Int32} {n : Nat} {K : Nat → mj_K} {f : Nat → Nat → Int32} {g : Nat → Nat → Option Nat} {y : mV} (hL : LMn K g m) (hN : MN f m y) (hi : i < y.2.1) : mj_Ci m_X1_wouldTell (d + 4) [.ref m, .int num, .ref (m + 7 + 5 * i)] (n, K, f, g) (fun r h1 => h1 = (n, K, f, g) ∧ r = vTell y.2.2.1 num (y.2.2.2.2 i)) := by
  have hL2 := hL
  have hN2 := hN
  obtain ⟨km, gm0, gm1, km1, km6, hLl, hLr⟩ := hL
  obtain ⟨lc, rc, mu, ls, rs⟩ := y
  obtain ⟨n1, n2, n3, n4, n5, n6, n7, n8⟩ := hN
  dsimp only at n1 n2 n3 n4 n5 n6 n7 n8
  have hi : i < rc := hi
  have u4 : f m 4 = mu 4 := n5 4 (by omega) (by omega)
  have hg_i : g (m + 6) i = some (m + 7 + 5 * i) := (hLr i (by omega)).1
  have hL_i := (hLr i (by omega)).2
  have kr_i : K (m + 7 + 5 * i) = (2, 2, 0) := hL_i.1
  have gr_i : g (m + 7 + 5 * i) 0 = some ((m + 7 + 5 * i) + 1) := hL_i.2.1
  have ks_i : K ((m + 7 + 5 * i) + 1) = (2, 3, 0) := hL_i.2.2.1
  have hR_i := n7 i (by omega)
  refine mj_entry (by refine ⟨by decide +kernel, by decide, rfl, Nat.le_of_ble_eq_true rfl⟩) ?_
  show mj_W _ _ _ _ _ 0 [.ref m, .int num, .ref (m + 7 + 5 * i), .null] [] _
  refine mj_num1 (v := 5) (q := 1) rfl dX1_wouldTell_0 rfl ?_
  refine mj_aload_n (i := 0) (q := 2) dX1_wouldTell_1 rfl rfl rfl ?_
  refine mj_getfv (q := 5) dX1_wouldTell_2 fl_X1_48 rfl rfl (by assumption) (by assumption) ?_
  refine mj_imul (q := 6) dX1_wouldTell_5 rfl ?_
  refine mj_num1 (v := 3) (q := 7) rfl dX1_wouldTell_6 rfl ?_
  refine mj_iload_n (i := 1) (q := 8) dX1_wouldTell_7 rfl rfl rfl ?_
  refine mj_imul (q := 9) dX1_wouldTell_8 rfl ?_
  refine mj_iadd (q := 10) dX1_wouldTell_9 rfl ?_
  refine mj_num2 (v := 9) (q := 12) (by decide) dX1_wouldTell_10 rfl ?_
  refine mj_irem (q := 13) (by decide) dX1_wouldTell_12 rfl ?_
  refine mj_num1 (v := 4) (q := 14) rfl dX1_wouldTell_13 rfl ?_
  refine mj_isub (q := 15) dX1_wouldTell_14 rfl ?_
  refine mj_istore_n (i := 3) (q := 16) dX1_wouldTell_15 rfl rfl (by decide) rfl ?_
  dsimp only [List.set]
  refine mj_aload_n (i := 2) (q := 17) dX1_wouldTell_16 rfl rfl rfl ?_
  refine mj_cV0i (K := m_X2_risk) (q := 20) dX1_wouldTell_17 ln_X1_105 ok_X2_risk (Nat.le_of_ble_eq_true rfl) (by decide) (by assumption) rfl rfl (s_runRisk hL_i hR_i) (fun r_17 h1 hq => ?_)
  obtain ⟨rfl, rfl⟩ := hq
  refine mj_iload_n (i := 3) (q := 21) dX1_wouldTell_20 rfl rfl rfl ?_
  refine mj_iadd (q := 22) dX1_wouldTell_21 rfl ?_
  refine mj_num1 (v := 0) (q := 23) rfl dX1_wouldTell_22 rfl ?_
  refine mj_mmax (q := 26) dX1_wouldTell_23 ln_X1_108 (Nat.le_of_ble_eq_true rfl) rfl ?_
  exact mj_ireturn dX1_wouldTell_26 ⟨_, rfl, rfl⟩ ⟨_, rfl, ⟨rfl, rfl⟩⟩
set_option maxHeartbeats 4000000 in
set_option maxRecDepth 100000 in
theorem s_bar {d m i : Nat} {t told sw : Int32} {n : Nat} {K : Nat → mj_K} {f : Nat → Nat → Int32} {g : Nat → Nat → Option Nat} {y : mV} (hL : LMn K g m) (hN : MN f m y) (hi : i < y.2.1) : mj_Ci m_X1_bar (d + 3) [.ref m, .ref (m + 7 + 5 * i), .int t, .int told, .int sw] (n, K, f, g) (fun r h1 => h1 = (n, K, f, g) ∧ r = vBar y.2.2.2.1 (y.2.2.2.2 i) t told sw) := by
  have hL2 := hL
  have hN2 := hN
  obtain ⟨km, gm0, gm1, km1, km6, hLl, hLr⟩ := hL
  obtain ⟨lc, rc, mu, ls, rs⟩ := y
  obtain ⟨n1, n2, n3, n4, n5, n6, n7, n8⟩ := hN
  dsimp only at n1 n2 n3 n4 n5 n6 n7 n8
  have hi : i < rc := hi
  have hg_i : g (m + 6) i = some (m + 7 + 5 * i) := (hLr i (by omega)).1
  have hL_i := (hLr i (by omega)).2
  have kr_i : K (m + 7 + 5 * i) = (2, 2, 0) := hL_i.1
  have gr_i : g (m + 7 + 5 * i) 0 = some ((m + 7 + 5 * i) + 1) := hL_i.2.1
  have ks_i : K ((m + 7 + 5 * i) + 1) = (2, 3, 0) := hL_i.2.2.1
  have hR_i := n7 i (by omega)
  have e1_i : f (m + 7 + 5 * i) 1 = (rs i).2 1 := hR_i.2.1 1 (by omega) (by omega)
  have e10_i : f (m + 7 + 5 * i) 10 = (rs i).2 10 := hR_i.2.1 10 (by omega) (by omega)
  have e16_i : f (m + 7 + 5 * i) 16 = (rs i).2 16 := hR_i.2.1 16 (by omega) (by omega)
  obtain ⟨j, hj, ej⟩ := n8 i hi
  have ej : (rs i).2 1 = nI j := ej
  rw [ej] at e1_i
  have ejc : ((rs i).2 1).toNatClampNeg = j := by rw [ej, nI_clamp (by omega)]
  have hl_j : g (m + 1) j = some (m + 2 + j) := (hLl j (by omega)).1
  have kl_j : K (m + 2 + j) = (2, 0, 0) := (hLl j (by omega)).2
  have hN_j := n6 j (by omega)
  have tail : ∀ b : Int32, (b = if vMoving (ls j) = true then 1 else 0) → mj_W m_X1_bar (d + 3) 0 0 (fun v h1 => ∃ r, v = some (.int r) ∧ h1 = (n, K, f, g) ∧ r = vBar ls (rs i) t told sw) 38 [.ref m, .ref (m + 7 + 5 * i), .int t, .int told, .int sw, .null] [.int b] (n, K, f, g) := by
    intro b hb
    have hmv : b = 0 ↔ vMoving (ls ((rs i).2 1).toNatClampNeg) = false := by rw [ejc, hb]; exact mj_i01
    refine mj_istore (i := 5) (q := 40) dX1_bar_38 rfl (by decide) rfl ?_
    dsimp only [List.set]
    refine mj_iload (i := 5) (q := 42) dX1_bar_40 rfl rfl ?_
    refine mj_if_ne (tgt := 47) (q := 45) dX1_bar_42 (by decide) rfl (fun c_42 => ?_) (fun c_42 => ?_)
    · have hmv : vMoving (ls ((rs i).2 1).toNatClampNeg) = true := by simpa using mt hmv.mpr c_42
      refine mj_aload_n (i := 1) (q := 48) dX1_bar_47 rfl rfl rfl ?_
      refine mj_getfv (q := 51) dX1_bar_48 fl_X1_132 rfl rfl (by assumption) (by assumption) ?_
      refine mj_if_le (tgt := 56) (q := 54) dX1_bar_51 (by decide) rfl (fun c_51 => ?_) (fun c_51 => ?_)
      · refine mj_aload_n (i := 1) (q := 57) dX1_bar_56 rfl rfl rfl ?_
        refine mj_getfv (q := 60) dX1_bar_57 fl_X1_135 rfl rfl (by assumption) (by assumption) ?_
        refine mj_if_eq (tgt := 65) (q := 63) dX1_bar_60 (by decide) rfl (fun c_60 => ?_) (fun c_60 => ?_)
        · refine mj_iload_n (i := 2) (q := 66) dX1_bar_65 rfl rfl rfl ?_
          refine mj_if_ne (tgt := 71) (q := 69) dX1_bar_66 (by decide) rfl (fun c_66 => ?_) (fun c_66 => ?_)
          · refine mj_iload_n (i := 3) (q := 72) dX1_bar_71 rfl rfl rfl ?_
            refine mj_num2 (v := 30) (q := 74) (by decide) dX1_bar_72 rfl ?_
            refine mj_icmp_le (tgt := 79) (q := 77) dX1_bar_74 (by decide) rfl (fun c_74 => ?_) (fun c_74 => ?_)
            · refine mj_aload_n (i := 1) (q := 80) dX1_bar_79 rfl rfl rfl ?_
              refine mj_getr (q := 83) dX1_bar_80 fl_X1_89 rfl rfl (by assumption) (by assumption) ?_
              refine mj_cV0i (K := m_X3_wholeDepth) (q := 86) dX1_bar_83 ln_X1_93 ok_X3_wholeDepth (Nat.le_of_ble_eq_true rfl) (by decide) (by assumption) rfl rfl (s_wholeDepth hL_i.2.2 hR_i.1) (fun r_83 h1 hq => ?_)
              obtain ⟨rfl, rfl⟩ := hq
              refine mj_num2 (v := 30) (q := 88) (by decide) dX1_bar_86 rfl ?_
              refine mj_icmp_ge (tgt := 94) (q := 91) dX1_bar_88 (by decide) rfl (fun c_88 => ?_) (fun c_88 => ?_)
              · refine mj_iload (i := 4) (q := 96) dX1_bar_94 rfl rfl ?_
                refine mj_if_eq (tgt := 103) (q := 99) dX1_bar_96 (by decide) rfl (fun c_96 => ?_) (fun c_96 => ?_)
                · refine mj_num2 (v := 7) (q := 105) (by decide) dX1_bar_103 rfl ?_
                  exact mj_ireturn dX1_bar_105 ⟨_, rfl, rfl⟩ ⟨_, rfl, rfl, by simp only [vBar]; rw [if_neg (by rw [hmv]; simp), if_neg (Int32.not_lt.mpr c_51), if_neg (fun z => z c_60), if_neg c_66, if_neg (Int32.not_lt.mpr c_74), if_neg (Int32.not_lt.mpr c_88), if_pos c_96]⟩
                · refine mj_num1 (v := 0) (q := 100) rfl dX1_bar_99 rfl ?_
                  refine mj_goto (q := 105) dX1_bar_100 (by decide) ?_
                  exact mj_ireturn dX1_bar_105 ⟨_, rfl, rfl⟩ ⟨_, rfl, rfl, by simp only [vBar]; rw [if_neg (by rw [hmv]; simp), if_neg (Int32.not_lt.mpr c_51), if_neg (fun z => z c_60), if_neg c_66, if_neg (Int32.not_lt.mpr c_74), if_neg (Int32.not_lt.mpr c_88), if_neg c_96]⟩
              · refine mj_num2 (v := 6) (q := 93) (by decide) dX1_bar_91 rfl ?_
                exact mj_ireturn dX1_bar_93 ⟨_, rfl, rfl⟩ ⟨_, rfl, rfl, by simp only [vBar]; rw [if_neg (by rw [hmv]; simp), if_neg (Int32.not_lt.mpr c_51), if_neg (fun z => z c_60), if_neg c_66, if_neg (Int32.not_lt.mpr c_74), if_pos (Int32.not_le.mp c_88)]⟩
            · refine mj_num1 (v := 5) (q := 78) rfl dX1_bar_77 rfl ?_
              exact mj_ireturn dX1_bar_78 ⟨_, rfl, rfl⟩ ⟨_, rfl, rfl, by simp only [vBar]; rw [if_neg (by rw [hmv]; simp), if_neg (Int32.not_lt.mpr c_51), if_neg (fun z => z c_60), if_neg c_66, if_pos (Int32.not_le.mp c_74)]⟩
          · refine mj_num1 (v := 4) (q := 70) rfl dX1_bar_69 rfl ?_
            exact mj_ireturn dX1_bar_70 ⟨_, rfl, rfl⟩ ⟨_, rfl, rfl, by simp only [vBar]; rw [if_neg (by rw [hmv]; simp), if_neg (Int32.not_lt.mpr c_51), if_neg (fun z => z c_60), if_pos c_66]⟩
        · refine mj_num1 (v := 3) (q := 64) rfl dX1_bar_63 rfl ?_
          exact mj_ireturn dX1_bar_64 ⟨_, rfl, rfl⟩ ⟨_, rfl, rfl, by simp only [vBar]; rw [if_neg (by rw [hmv]; simp), if_neg (Int32.not_lt.mpr c_51), if_pos c_60]⟩
      · refine mj_num1 (v := 2) (q := 55) rfl dX1_bar_54 rfl ?_
        exact mj_ireturn dX1_bar_55 ⟨_, rfl, rfl⟩ ⟨_, rfl, rfl, by simp only [vBar]; rw [if_neg (by rw [hmv]; simp), if_pos (Int32.not_le.mp c_51)]⟩
    · have hmv := hmv.mp c_42
      refine mj_num1 (v := 1) (q := 46) rfl dX1_bar_45 rfl ?_
      exact mj_ireturn dX1_bar_46 ⟨_, rfl, rfl⟩ ⟨_, rfl, rfl, by simp only [vBar]; rw [if_pos hmv]⟩
  refine mj_entry (by refine ⟨by decide +kernel, by decide, rfl, Nat.le_of_ble_eq_true rfl⟩) ?_
  show mj_W _ _ _ _ _ 0 [.ref m, .ref (m + 7 + 5 * i), .int t, .int told, .int sw, .null] [] _
  refine mj_aload_n (i := 1) (q := 1) dX1_bar_0 rfl rfl rfl ?_
  refine mj_getfv (q := 4) dX1_bar_1 fl_X1_86 rfl rfl (by assumption) (by assumption) ?_
  refine mj_if_lt (tgt := 37) (q := 7) dX1_bar_4 (by decide) rfl (fun c_4 => absurd c_4 (nI_pos (by omega))) (fun c_4 => ?_)
  refine mj_aload_n (i := 1) (q := 8) dX1_bar_7 rfl rfl rfl ?_
  refine mj_getfv (q := 11) dX1_bar_8 fl_X1_86 rfl rfl (by assumption) (by assumption) ?_
  refine mj_aload_n (i := 0) (q := 12) dX1_bar_11 rfl rfl rfl ?_
  refine mj_getfv (q := 15) dX1_bar_12 fl_X1_35 rfl rfl (by assumption) (by assumption) ?_
  refine mj_icmp_ge (tgt := 37) (q := 18) dX1_bar_15 (by decide) rfl (fun c_15 => absurd c_15 (nI_ge hj (by omega))) (fun c_15 => ?_)
  refine mj_aload_n (i := 0) (q := 19) dX1_bar_18 rfl rfl rfl ?_
  refine mj_getr (q := 22) dX1_bar_19 fl_X1_11 rfl rfl (by assumption) (by assumption) ?_
  refine mj_aload_n (i := 1) (q := 23) dX1_bar_22 rfl rfl rfl ?_
  refine mj_getfv (q := 26) dX1_bar_23 fl_X1_86 rfl rfl (by assumption) (by assumption) ?_
  refine mj_aaldn (q := 27) dX1_bar_26 rfl (by assumption) ⟨by omega, by omega⟩ (by assumption) ?_
  refine mj_cV0i (K := m_X0_isMoving) (q := 30) dX1_bar_27 ln_X1_128 ok_X0_isMoving (Nat.le_of_ble_eq_true rfl) (by decide) (by assumption) rfl rfl (s_isMoving kl_j hN_j) (fun r_27 h1 hq => ?_)
  obtain ⟨rfl, hr_27⟩ := hq
  refine mj_if_eq (tgt := 37) (q := 33) dX1_bar_30 (by decide) rfl (fun c_30 => ?_) (fun c_30 => ?_)
  · refine mj_num1 (v := 0) (q := 38) rfl dX1_bar_37 rfl ?_
    exact tail 0 (by rw [hr_27] at c_30; exact c_30.symm)
  · refine mj_num1 (v := 1) (q := 34) rfl dX1_bar_33 rfl ?_
    refine mj_goto (q := 38) dX1_bar_34 (by decide) ?_
    rw [hr_27] at c_30
    have hz : vMoving (ls j) = true := Decidable.byContradiction (fun z => c_30 (if_neg z))
    exact tail 1 (if_pos hz).symm
set_option maxHeartbeats 4000000 in
set_option maxRecDepth 100000 in
theorem s_barNow {d m i : Nat} {n : Nat} {K : Nat → mj_K} {f : Nat → Nat → Int32} {g : Nat → Nat → Option Nat} {y : mV} (hL : LMn K g m) (hN : MN f m y) (hi : i < y.2.1) : mj_Ci m_X1_barNow (d + 4) [.ref m, .ref (m + 7 + 5 * i)] (n, K, f, g) (fun r h1 => h1 = (n, K, f, g) ∧ r = vBarNow y.2.2.1 y.2.2.2.1 (y.2.2.2.2 i)) := by
  have hL2 := hL
  have hN2 := hN
  obtain ⟨km, gm0, gm1, km1, km6, hLl, hLr⟩ := hL
  obtain ⟨lc, rc, mu, ls, rs⟩ := y
  obtain ⟨n1, n2, n3, n4, n5, n6, n7, n8⟩ := hN
  dsimp only at n1 n2 n3 n4 n5 n6 n7 n8
  have hi : i < rc := hi
  have hg_i : g (m + 6) i = some (m + 7 + 5 * i) := (hLr i (by omega)).1
  have hL_i := (hLr i (by omega)).2
  have kr_i : K (m + 7 + 5 * i) = (2, 2, 0) := hL_i.1
  have gr_i : g (m + 7 + 5 * i) 0 = some ((m + 7 + 5 * i) + 1) := hL_i.2.1
  have ks_i : K ((m + 7 + 5 * i) + 1) = (2, 3, 0) := hL_i.2.2.1
  have hR_i := n7 i (by omega)
  have e11_i : f (m + 7 + 5 * i) 11 = (rs i).2 11 := hR_i.2.1 11 (by omega) (by omega)
  have e17_i : f (m + 7 + 5 * i) 17 = (rs i).2 17 := hR_i.2.1 17 (by omega) (by omega)
  refine mj_entry (by refine ⟨by decide +kernel, by decide, rfl, Nat.le_of_ble_eq_true rfl⟩) ?_
  show mj_W _ _ _ _ _ 0 [.ref m, .ref (m + 7 + 5 * i)] [] _
  refine mj_aload_n (i := 0) (q := 1) dX1_barNow_0 rfl rfl rfl ?_
  refine mj_aload_n (i := 1) (q := 2) dX1_barNow_1 rfl rfl rfl ?_
  refine mj_aload_n (i := 0) (q := 3) dX1_barNow_2 rfl rfl rfl ?_
  refine mj_aload_n (i := 1) (q := 4) dX1_barNow_3 rfl rfl rfl ?_
  refine mj_cV1i (K := m_X1_isTested) (q := 7) dX1_barNow_4 ln_X1_114 ok_X1_isTested (Nat.le_of_ble_eq_true rfl) (by decide) (by assumption) rfl rfl (s_isTested hL2 hN2 hi) (fun r_4 h1 hq => ?_)
  obtain ⟨rfl, rfl⟩ := hq
  refine mj_aload_n (i := 1) (q := 8) dX1_barNow_7 rfl rfl rfl ?_
  refine mj_getfv (q := 11) dX1_barNow_8 fl_X1_118 rfl rfl (by assumption) (by assumption) ?_
  refine mj_aload_n (i := 1) (q := 12) dX1_barNow_11 rfl rfl rfl ?_
  refine mj_getfv (q := 15) dX1_barNow_12 fl_X1_121 rfl rfl (by assumption) (by assumption) ?_
  refine mj_cV4i (K := m_X1_bar) (q := 18) dX1_barNow_15 ln_X1_124 ok_X1_bar (Nat.le_of_ble_eq_true rfl) (by decide) (by assumption) rfl rfl (s_bar hL2 hN2 hi) (fun r_15 h1 hq => ?_)
  obtain ⟨rfl, rfl⟩ := hq
  exact mj_ireturn dX1_barNow_18 ⟨_, rfl, rfl⟩ ⟨_, rfl, ⟨rfl, rfl⟩⟩
