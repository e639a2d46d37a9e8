/-! WHAT isSo ASKS, out of what holds at every time -/
theorem acc_run (y : mV) (w : Nat) : ∀ n, vAccRun y w n = rSum (fun i => vOfRun y i w) n
  | 0 => rfl
  | n + 1 => by
    show vAccRun y w n + vOfRun y n w = rSum (fun i => vOfRun y i w) n + vOfRun y n w
    rw [acc_run y w n]
theorem acc_lift (y : mV) (w : Nat) : ∀ n, vAccLift y w n = rSum (fun l => vOfLift y l w) n
  | 0 => rfl
  | n + 1 => by
    show vAccLift y w n + vOfLift y n w = rSum (fun l => vOfLift y l w) n + vOfLift y n w
    rw [acc_lift y w n]
theorem acc_open (rs : Nat → rV) : ∀ n, vOpen rs n = rSum (fun i => v01 ((rs i).2 15)) n
  | 0 => rfl
  | n + 1 => by
    show vOpen rs n + v01 ((rs n).2 15) = rSum (fun i => v01 ((rs i).2 15)) n + v01 ((rs n).2 15)
    rw [acc_open rs n]
theorem acc_area (F : Nat → Int32) (rs : Nat → rV) : ∀ n, (∀ i, i < n → (rs i).2 5 = F i) → vAccTo F n = vArea rs n
  | 0, _ => rfl
  | n + 1, h => by
    show vAccTo F n + F n = vArea rs n + (rs n).2 5
    rw [acc_area F rs n (fun i hi => h i (by omega)), h n (by omega)]
theorem acc_deep (F : Nat → Int32) (y : mV) : ∀ n, (∀ i, i < n → (y.2.2.2.2 i).2 5 = F i) → vAccAl y F n = vDepthArea y.2.2.2.2 n
  | 0, _ => rfl
  | n + 1, h => by
    show vAccAl y F n + vSumD (y.2.2.2.2 n).1 (y.2.2.2.2 n).1.1 * F n = vDepthArea y.2.2.2.2 n + vDepth 0 (y.2.2.2.2 n).1 * (y.2.2.2.2 n).2 5
    rw [acc_deep F y n (fun i hi => h i (by omega)), h n (by omega), vDepth_sumD]
theorem area_rng {rs : Nat → rV} : ∀ {n : Nat}, n ≤ 8 → (∀ i, i < n → IR 1 9 ((rs i).2 5)) → (n : Int) ≤ (vArea rs n).toInt ∧ (vArea rs n).toInt ≤ 9 * (n : Int)
  | 0, _, _ => ⟨Int.le_refl 0, Int.le_refl 0⟩
  | n + 1, h8, h => by
    obtain ⟨a, b⟩ := area_rng (rs := rs) (n := n) (by omega) (fun i hi => h i (by omega))
    have q := h n (by omega)
    unfold IR at q
    have s := ir_add (x := vArea rs n) (y := (rs n).2 5) (by omega) (by omega)
    show ((n + 1 : Nat) : Int) ≤ (vArea rs n + (rs n).2 5).toInt ∧ (vArea rs n + (rs n).2 5).toInt ≤ 9 * ((n + 1 : Nat) : Int)
    rw [s]
    omega
theorem deep_rng {rs : Nat → rV} : ∀ {n : Nat}, n ≤ 8 → (∀ i, i < n → IS (rs i).1 ∧ IR 1 9 ((rs i).2 5)) → 0 ≤ (vDepthArea rs n).toInt ∧ (vDepthArea rs n).toInt ≤ 21600 * (n : Int)
  | 0, _, _ => ⟨Int.le_refl 0, Int.le_refl 0⟩
  | n + 1, h8, h => by
    obtain ⟨a, b⟩ := deep_rng (rs := rs) (n := n) (by omega) (fun i hi => h i (by omega))
    obtain ⟨q, q5⟩ := h n (by omega)
    have d := (vDepth_z q (lo := 0) (Nat.zero_le _)).2
    unfold IR at q5
    have p0 : 0 ≤ (vDepth 0 (rs n).1).toInt * ((rs n).2 5).toInt := Int.mul_nonneg d.1 (by omega)
    have p1 : (vDepth 0 (rs n).1).toInt * ((rs n).2 5).toInt ≤ 2400 * 9 := Int.mul_le_mul d.2 q5.2 (by omega) (by omega)
    have m := ir_mul (x := vDepth 0 (rs n).1) (y := (rs n).2 5) (by omega) (by omega)
    have s := ir_add (x := vDepthArea rs n) (y := vDepth 0 (rs n).1 * (rs n).2 5) (by rw [m]; omega) (by rw [m]; omega)
    show 0 ≤ (vDepthArea rs n + vDepth 0 (rs n).1 * (rs n).2 5).toInt ∧ (vDepthArea rs n + vDepth 0 (rs n).1 * (rs n).2 5).toInt ≤ 21600 * ((n + 1 : Nat) : Int)
    rw [s, m]
    omega
theorem nI_inj {a b : Nat} (ha : a < 1000) (hb : b < 1000) (h : nI a = nI b) : a = b := by
  have h2 := congrArg Int32.toInt h
  rw [nI_toInt (by omega), nI_toInt (by omega)] at h2
  omega
theorem sum_ind {c : Prop} [Decidable c] {j : Nat} (hj : j < 1000) : ∀ L, L ≤ 100 → rSum (fun l => if c ∧ nI j = nI l then 1 else 0) L = if c ∧ j < L then 1 else 0
  | 0, _ => by rw [if_neg (fun z => absurd z.2 (Nat.not_lt_zero j))]; rfl
  | L + 1, h => by
    have ih := sum_ind (c := c) hj L (by omega)
    show rSum (fun l => if c ∧ nI j = nI l then 1 else 0) L + (if c ∧ nI j = nI L then 1 else 0) = _
    rw [ih]
    by_cases hc : c
    · by_cases e : j = L
      · subst e
        rw [if_neg (fun z => absurd z.2 (Nat.lt_irrefl j)), if_pos ⟨hc, rfl⟩, if_pos ⟨hc, Nat.lt_succ_self j⟩]
        rfl
      · rw [if_neg (c := c ∧ nI j = nI L) (fun z => e (nI_inj hj (by omega) z.2)), Int32.add_zero]
        by_cases l : j < L
        · rw [if_pos ⟨hc, l⟩, if_pos ⟨hc, by omega⟩]
        · rw [if_neg (fun z => l z.2), if_neg (fun z => by have := z.2; omega)]
    · rw [if_neg (fun z => hc z.1), if_neg (fun z => hc z.1), if_neg (fun z => hc z.1)]
      rfl
theorem rSum_add (F G : Nat → Int32) : ∀ n, rSum (fun l => F l + G l) n = rSum F n + rSum G n
  | 0 => rfl
  | n + 1 => by
    show rSum (fun l => F l + G l) n + (F n + G n) = rSum F n + F n + (rSum G n + G n)
    rw [rSum_add F G n]
    ac_rfl
theorem rSum_zero : ∀ n, rSum (fun _ => (0 : Int32)) n = 0
  | 0 => rfl
  | n + 1 => by
    show rSum (fun _ => (0 : Int32)) n + 0 = 0
    rw [rSum_zero n]
    rfl
theorem open_lifts {rs : Nat → rV} {L : Nat} (hL : L ≤ 4) : ∀ n, (∀ i, i < n → ∃ j, j < L ∧ (rs i).2 1 = nI j) → rSum (fun l => vOpenOf rs (nI l) n) L = vOpen rs n
  | 0, _ => rSum_zero L
  | n + 1, h => by
    obtain ⟨j, hj, e⟩ := h n (by omega)
    have ih := open_lifts (rs := rs) hL n (fun i hi => h i (by omega))
    have e1 : (fun l => vOpenOf rs (nI l) (n + 1)) = fun l => vOpenOf rs (nI l) n + (if ¬ (rs n).2 15 = 0 ∧ nI j = nI l then 1 else 0) := by
      funext l
      rw [vOpenOf, e]
    rw [e1, rSum_add, ih, sum_ind (by omega) L (by omega)]
    show vOpen rs n + _ = vOpen rs n + v01 ((rs n).2 15)
    congr 1
    unfold v01
    by_cases z : (rs n).2 15 = 0
    · rw [if_neg (fun q => q.1 z), if_pos z]
    · rw [if_pos ⟨z, hj⟩, if_neg z]
theorem JY.soRun {F : Nat → Int32} {y : mV} {B i : Nat} (h : JY F y B) (hi : i < y.2.1) : vSoRun y i (F i) := by
  obtain ⟨-, -, j3, -⟩ := h
  obtain ⟨⟨hS, h2, h3, h5, h6, h7a, h7b⟩, hF⟩ := j3 i hi
  have z0 : (0 : Int32).toInt = 0 := rfl
  have z1 : (1 : Int32).toInt = 1 := rfl
  have z3 : (3 : Int32).toInt = 3 := rfl
  have z100 : (100 : Int32).toInt = 100 := rfl
  have z300 : (300 : Int32).toInt = 300 := rfl
  have r := vRisk_spec (slope := (y.2.2.2.2 i).2 3) hS.1
  refine ⟨fun l hl => ?_, ?_, ?_, r.1, r.2.1, r.2.2.1, r.2.2.2, ?_, ?_, vBar_rng.1, vBar_rng.2, fun hd => vBar_dud hd⟩
  · have q := hS.2.1 l hl
    unfold IL IR at q
    obtain ⟨⟨q1, q2⟩, ⟨q3, q4⟩, ⟨q5, q6⟩⟩ := q
    exact ⟨Int32.le_iff_toInt_le.mpr (by rw [z1]; exact q1), Int32.le_iff_toInt_le.mpr (by rw [z300]; exact q2), Int32.le_iff_toInt_le.mpr (by rw [z0]; exact q3), Int32.le_iff_toInt_le.mpr (by rw [z100]; exact q4), Int32.le_iff_toInt_le.mpr (by rw [z0]; exact q5), Int32.le_iff_toInt_le.mpr (by rw [z3]; exact q6)⟩
  · exact vDepth_sumD _
  · intro hw e
    have c0 : (y.2.2.2.2 i).1.1 = 0 := nI_inj (b := 0) (by have := hS.1; omega) (by omega) e
    have w0 := hS.2.2 c0
    have hw : v01 (y.2.2.2.2 i).1.2.1 = 1 := hw
    exact v01_1 w0 hw
  · exact Int32.le_iff_toInt_le.mpr (by rw [z0]; exact h7a)
  · rw [← hF]
    exact Int32.lt_iff_toInt_lt.mpr h7b
theorem JY.soNext {F : Nat → Int32} {y : mV} {B : Nat} (h : JY F y B) : vSoNext y := by
  obtain ⟨-, j2, j3, -⟩ := h
  refine vSoNext_of (fun k hk h40 => ?_) j2
  obtain ⟨⟨hS, h2, h3, h5, -⟩, -⟩ := j3 k hk
  rcases vSlideSize_spec hS h5 with ⟨a, -⟩ | ⟨j, -, -, -, c, -⟩
  · exfalso
    have e : vRisk ((y.2.2.2.2 k).2 3) (y.2.2.2.2 k).1 = 0 := by unfold vRisk; rw [if_pos a]
    rw [e] at h40
    exact absurd h40 (by decide)
  · exact Int32.lt_iff_toInt_lt.mpr (by rw [show (0 : Int32).toInt = 0 from rfl]; exact c)
theorem JY.soFin {F : Nat → Int32} {y : mV} {B : Nat} (h : JY F y B) (hl : ∀ i, i < y.2.1 → ∃ j, j < y.1 ∧ (y.2.2.2.2 i).2 1 = nI j) : vSoFin y F := by
  obtain ⟨j1, j2, j3, j4, j5, j6, j7, j8, j9, ⟨j10, j11, j12, j13, j14⟩, -⟩ := h
  refine ⟨?_, ?_, ?_, ?_, ?_, ?_, Int32.le_iff_toInt_le.mpr j11, Int32.le_iff_toInt_le.mpr j13⟩
  · exact (acc_deep F y y.2.1 (fun i hi => (j3 i hi).2)).symm
  · rw [acc_run]; exact j7
  · rw [acc_run]; exact acc_open _ _
  · rw [acc_run, acc_lift]
    exact (open_lifts j1 y.2.1 hl).trans (acc_open _ _)
  · rw [acc_lift]; exact j8
  · rw [acc_run, acc_lift]
    exact j9.trans j8
/-- the law's isSo, of a mountain as it always is -/
theorem s_isSoJ {d x m ar L B : Nat} {n : Nat} {K : Nat → mj_K} {f : Nat → Nat → Int32} {g : Nat → Nat → Option Nat} {y : mV} (hP : LPn K g x m) (hN : MN f m y) (hK : K ar = (0, L, 0)) (hiL : y.2.1 ≤ L) (hL9 : L ≤ 1000) (h1 : 1 ≤ y.2.1) (h6 : y.2.1 ≤ 6) (h : JY (f ar) y B) : mj_Ci m_L_isSo (d + 6) [.ref x, .int (nI y.1), .int (nI y.2.1), .ref ar] (n, K, f, g) (fun r h1 => r = 1 ∧ h1 = (n, K, f, g)) := by
  have j2 := h.2.1
  have j3 := h.2.2.1
  have a := area_rng (rs := y.2.2.2.2) (n := y.2.1) j2 (fun i hi => (j3 i hi).1.2.2.2.1)
  have b := deep_rng (rs := y.2.2.2.2) (n := y.2.1) j2 (fun i hi => ⟨(j3 i hi).1.1, (j3 i hi).1.2.2.2.1⟩)
  exact s_isSo (N := (vDepthArea y.2.2.2.2 y.2.1).toInt.toNat) (A := (vArea y.2.2.2.2 y.2.1).toInt.toNat) hP hN hK hiL hL9 (fun i hi => h.soRun hi) h.soNext (fun i hi => vSoCould_of j2 hi) (h.soFin hN.2.2.2.2.2.2.2)
    (acc_deep _ _ _ (fun i hi => (j3 i hi).2)) (acc_area _ _ _ (fun i hi => (j3 i hi).2)) (by omega) (by omega) (by omega) (by omega) (by omega)
