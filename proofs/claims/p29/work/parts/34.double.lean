/-! DOUBLES: the mean by the area, less the sum: within 2^-28 of nothing -/
theorem db_near {w u : Bool} {cx cy c c' : Nat} {ex ey q q' : Int} (hx : -1074 ≤ ex) (hy1 : -1074 ≤ ey) (hy2 : ey ≤ 971) (hy : 0 < cy) (hq : -1074 ≤ q) (hR : FP.Core.roundRatio FP.Core.b64 u cx cy (ex - ey) = .fin w c q) (hc' : c' < 2 ^ 53) (hq' : -1074 ≤ q') :
    (((FP.Core.inUnits cx ex (-1074) * FP.Core.one64 : Nat) : Int) - ((FP.Core.inUnits c q (-1074) * FP.Core.inUnits cy ey (-1074) : Nat) : Int)).natAbs ≤ (((FP.Core.inUnits cx ex (-1074) * FP.Core.one64 : Nat) : Int) - ((FP.Core.inUnits c' q' (-1074) * FP.Core.inUnits cy ey (-1074) : Nat) : Int)).natAbs := by
  have h := FP.Core.roundRatio_nearest FP.Core.good_b64 hy hR (c' := c') (q' := q') hc' (show FP.Core.b64.qmin ≤ q' from hq') (e0 := -3174) (by decide) (by omega)
  unfold FP.Core.distance at h
  rw [FP.Core.inUnits_move c (q := q) (r := -1074) (e := -3174) (by decide) hq, FP.Core.inUnits_move c' (q := q') (r := -1074) (e := -3174) (by decide) hq'] at h
  have hz : (ex - ey - -3174).toNat + (ey - -1074).toNat = (ex - -1074).toNat + 1074 + ((-1074 : Int) - -3174).toNat := by omega
  have hp : 2 ^ (ex - ey - -3174).toNat * 2 ^ (ey - -1074).toNat = 2 ^ (ex - -1074).toNat * FP.Core.one64 * 2 ^ ((-1074 : Int) - -3174).toNat := by
    unfold FP.Core.one64
    rw [← Nat.pow_add, ← Nat.pow_add, ← Nat.pow_add, hz]
  have hM : 0 < 2 ^ ((-1074 : Int) - -3174).toNat := Nat.two_pow_pos _
  have hP : 0 < 2 ^ (ey - -1074).toNat := Nat.two_pow_pos _
  have e1 : FP.Core.inUnits cx (ex - ey) (-3174) * 2 ^ (ey - -1074).toNat = FP.Core.inUnits cx ex (-1074) * FP.Core.one64 * 2 ^ ((-1074 : Int) - -3174).toNat := by
    unfold FP.Core.inUnits
    rw [Nat.mul_assoc, hp]
    simp only [Nat.mul_assoc]
  have e2 : FP.Core.inUnits cy ey (-1074) = cy * 2 ^ (ey - -1074).toNat := rfl
  generalize FP.Core.inUnits cx (ex - ey) (-3174) = X at h e1
  generalize FP.Core.inUnits c q (-1074) = Z at h ⊢
  generalize FP.Core.inUnits c' q' (-1074) = Z' at h ⊢
  generalize FP.Core.inUnits cx ex (-1074) * FP.Core.one64 = XU at e1 ⊢
  rw [e2]
  generalize 2 ^ ((-1074 : Int) - -3174).toNat = M at h e1 hM
  generalize 2 ^ (ey - -1074).toNat = T at e1 hP ⊢
  have key : ∀ z : Nat, ((X : Int) - ((z * M : Nat) : Int) * (cy : Int)).natAbs * T = ((XU : Int) - ((z * (cy * T) : Nat) : Int)).natAbs * M := by
    intro z
    have g1 : (X : Int) * (T : Int) = (XU : Int) * (M : Int) := by exact_mod_cast e1
    have g : ((X : Int) - ((z * M : Nat) : Int) * (cy : Int)) * (T : Int) = ((XU : Int) - ((z * (cy * T) : Nat) : Int)) * (M : Int) := by
      rw [Int.sub_mul, Int.sub_mul, g1]
      congr 1
      push_cast
      ac_rfl
    have g3 := congrArg Int.natAbs g
    rwa [Int.natAbs_mul, Int.natAbs_mul, Int.natAbs_natCast, Int.natAbs_natCast] at g3
  refine Nat.le_of_mul_le_mul_right ?_ hM
  rw [← key, ← key]
  exact Nat.mul_le_mul_right T h
/-- .. with 1 below: a product, by its own rounding -/
theorem db_nearP {w u : Bool} {cx cy c c' : Nat} {ex ey q q' : Int} (hx : -1074 ≤ ex) (hy1 : -1074 ≤ ey) (hq : -1074 ≤ q) (hR : FP.Core.roundRatio FP.Core.b64 u (cx * cy) 1 (ex + ey) = .fin w c q) (hc' : c' < 2 ^ 53) (hq' : -1074 ≤ q') :
    (((FP.Core.inUnits cx ex (-1074) * FP.Core.inUnits cy ey (-1074) : Nat) : Int) - ((FP.Core.inUnits c q (-1074) * FP.Core.one64 : Nat) : Int)).natAbs ≤ (((FP.Core.inUnits cx ex (-1074) * FP.Core.inUnits cy ey (-1074) : Nat) : Int) - ((FP.Core.inUnits c' q' (-1074) * FP.Core.one64 : Nat) : Int)).natAbs := by
  have h := FP.Core.roundRatio_nearest FP.Core.good_b64 (by decide) hR (c' := c') (q' := q') hc' (show FP.Core.b64.qmin ≤ q' from hq') (e0 := -2148) (by decide) (by omega)
  unfold FP.Core.distance at h
  rw [FP.Core.inUnits_move c (q := q) (r := -1074) (e := -2148) (by decide) hq, FP.Core.inUnits_move c' (q := q') (r := -1074) (e := -2148) (by decide) hq'] at h
  have hz : (ex + ey - -2148).toNat = (ex - -1074).toNat + (ey - -1074).toNat := by omega
  have e1 : FP.Core.inUnits (cx * cy) (ex + ey) (-2148) = FP.Core.inUnits cx ex (-1074) * FP.Core.inUnits cy ey (-1074) := by
    unfold FP.Core.inUnits
    rw [hz, Nat.pow_add]
    ac_rfl
  have e2 : 2 ^ ((-1074 : Int) - -2148).toNat = FP.Core.one64 := by unfold FP.Core.one64; rfl
  rw [e1, e2] at h
  have e3 : (((1 : Nat) : Int)) = 1 := rfl
  rw [e3, Int.mul_one, Int.mul_one] at h
  exact h
/-- an int that is none below 0, as a double -/
theorem db_int {a : Int32} {n : Nat} (h : a.toInt = n) : ∃ c q, FP.Core.val64 (FP.Core.i2d a) = .fin false c q ∧ -1074 ≤ q ∧ q ≤ 971 ∧ FP.Core.inUnits c q (-1074) = n * FP.Core.one64 := by
  obtain ⟨s, c, q, hv⟩ := FP.Core.i2d_fin a
  have hf := FP.Core.val64_fits (FP.Core.i2d a)
  have hs : FP.Core.sgn (FP.Core.val64 (FP.Core.i2d a)) = false := by
    rw [FP.Core.val64_i2d]
    show FP.Core.sgn (FP.Core.roundRatio FP.Core.b64 (decide (a.toInt < 0)) a.toInt.natAbs 1 0) = false
    rw [FP.Core.sgn_roundRatio, h]
    exact decide_eq_false (by omega)
  have hw := FP.Core.whole_zval FP.Core.good_b64 hf (FP.Core.i2d_int a)
  rw [hv] at hs hf hw
  have hs : s = false := hs
  subst hs
  refine ⟨c, q, hv, hf.2.1, hf.2.2.1, ?_⟩
  rw [FP.Core.pow_qmin64, h] at hw
  have hw : ((FP.Core.inUnits c q FP.Core.b64.qmin : Nat) : Int) = (n : Int) * (FP.Core.one64 : Int) := hw
  rw [← Int.natCast_mul] at hw
  exact Int.natCast_inj.mp hw
theorem db_top : 2 ^ 18 * FP.Core.one64 < FP.Core.b64.tails * 2 ^ (FP.Core.b64.exps - 2) := by decide +kernel
theorem db_v18 : FP.Core.zmag FP.Core.b64 (FP.Core.val64 0x4110000000000000) = 2 ^ 18 * FP.Core.one64 := by decide +kernel
theorem db_v28 : FP.Core.zval FP.Core.b64 (FP.Core.val64 0x3E30000000000000) = ((2 ^ 1046 : Nat) : Int) := by decide +kernel
theorem db_v28n : FP.Core.zval FP.Core.b64 (FP.Core.val64 0xBE30000000000000) = -((2 ^ 1046 : Nat) : Int) := by decide +kernel
theorem db_c4 : ((2 ^ 1046 : Nat) : Int) < FP.Core.zval FP.Core.b64 (FP.Core.val64 0x3F1A36E2EB1C432D) := by decide +kernel
theorem db_e1 {cx cy : Nat} {ex ey : Int} (hx : -1074 ≤ ex) (hy1 : -1074 ≤ ey) (hy2 : ey ≤ 971) : FP.Core.inUnits cx (ex - ey) (-3174) * 2 ^ (ey - -1074).toNat = FP.Core.inUnits cx ex (-1074) * FP.Core.one64 * 2 ^ ((-1074 : Int) - -3174).toNat := by
  have hz : (ex - ey - -3174).toNat + (ey - -1074).toNat = (ex - -1074).toNat + 1074 + ((-1074 : Int) - -3174).toNat := by omega
  have hp : 2 ^ (ex - ey - -3174).toNat * 2 ^ (ey - -1074).toNat = 2 ^ (ex - -1074).toNat * FP.Core.one64 * 2 ^ ((-1074 : Int) - -3174).toNat := by
    unfold FP.Core.one64
    rw [← Nat.pow_add, ← Nat.pow_add, ← Nat.pow_add, hz]
  unfold FP.Core.inUnits
  rw [Nat.mul_assoc, hp]
  simp only [Nat.mul_assoc]
/-- the quotient is a number: not above 2^18 -/
theorem db_qfin {c1 c2 N A : Nat} {q1 q2 : Int} (l1 : -1074 ≤ q1) (l2 : -1074 ≤ q2) (u2 : q2 ≤ 971) (z1 : FP.Core.inUnits c1 q1 (-1074) = N * FP.Core.one64) (z2 : FP.Core.inUnits c2 q2 (-1074) = A * FP.Core.one64) (hc : 0 < c2) (hN : N ≤ 2 ^ 18) (hA : 0 < A) : ∃ c q, FP.Core.roundRatio FP.Core.b64 false c1 c2 (q1 - q2) = .fin false c q := by
  rcases FP.Core.roundRatio_cases FP.Core.b64 false c1 c2 (q1 - q2) with h | h
  · exact h
  · exfalso
    have hle := FP.Core.zmag_roundRatio_le FP.Core.good_b64 (s := false) (A := c1) (B := c2) (e := q1 - q2) (e0 := -3174) (V := FP.Core.val64 0x4110000000000000) hc (FP.Core.val64_fits _) (by decide +kernel) (by decide) (by omega) ?_
    · rw [h, db_v18] at hle
      exact absurd db_top (Nat.not_lt.mpr hle)
    · rw [db_v18]
      have e1 := db_e1 (cx := c1) (cy := c2) l1 l2 u2
      have e2 : FP.Core.inUnits c2 q2 (-1074) = c2 * 2 ^ (q2 - -1074).toNat := rfl
      rw [z1] at e1
      rw [e2] at z2
      have hT : 0 < 2 ^ (q2 - -1074).toNat := Nat.two_pow_pos _
      have e3 : 2 ^ (FP.Core.b64.qmin - -3174).toNat = 2 ^ ((-1074 : Int) - -3174).toNat := rfl
      rw [e3]
      generalize FP.Core.inUnits c1 (q1 - q2) (-3174) = X at e1 ⊢
      generalize 2 ^ ((-1074 : Int) - -3174).toNat = M at e1 ⊢
      generalize 2 ^ (q2 - -1074).toNat = T at e1 z2 hT
      generalize FP.Core.one64 = U at e1 z2 ⊢
      refine Nat.le_of_mul_le_mul_right ?_ hT
      rw [e1]
      calc N * U * U * M ≤ (2 ^ 18 * A) * U * U * M := Nat.mul_le_mul_right _ (Nat.mul_le_mul_right _ (Nat.mul_le_mul_right _ (Nat.le_trans hN (Nat.le_mul_of_pos_right _ hA))))
        _ = 2 ^ 18 * U * M * (A * U) := by ac_rfl
        _ = 2 ^ 18 * U * M * c2 * T := by rw [← z2]; ac_rfl
theorem db_W : FP.Core.one64 = 2 ^ 35 * 2 ^ 1039 := by unfold FP.Core.one64; rw [← Nat.pow_add]
/-- how far the quotient, times what it was divided by, is from the sum -/
theorem db_quot {c1 c2 c3 N A : Nat} {q1 q2 q3 : Int} (l1 : -1074 ≤ q1) (l2 : -1074 ≤ q2) (u2 : q2 ≤ 971) (l3 : -1074 ≤ q3) (z1 : FP.Core.inUnits c1 q1 (-1074) = N * FP.Core.one64) (z2 : FP.Core.inUnits c2 q2 (-1074) = A * FP.Core.one64) (hc : 0 < c2) (hN : N < 2 ^ 18) (hA : 0 < A) (hA2 : A ≤ 64)
    (hR : FP.Core.roundRatio FP.Core.b64 false c1 c2 (q1 - q2) = .fin false c3 q3) : (((N * FP.Core.one64 : Nat) : Int) - ((FP.Core.inUnits c3 q3 (-1074) * A : Nat) : Int)).natAbs ≤ 64 * 2 ^ 1039 := by
  have hc' : N * 2 ^ 35 / A < 2 ^ 53 := Nat.lt_of_le_of_lt (Nat.div_le_self _ _) (by omega)
  have k1 := db_near (c' := N * 2 ^ 35 / A) (q' := -35) l1 l2 u2 hc l3 hR hc' (by decide)
  rw [z1, z2] at k1
  have e4 : FP.Core.inUnits (N * 2 ^ 35 / A) (-35) (-1074) = N * 2 ^ 35 / A * 2 ^ 1039 := rfl
  rw [e4] at k1
  have hU : 0 < FP.Core.one64 := FP.Core.one64_pos
  have hW := db_W
  have hd := Nat.div_add_mod (N * 2 ^ 35) A
  have hm := Nat.mod_lt (N * 2 ^ 35) hA
  generalize N * 2 ^ 35 / A = C at k1 hd
  generalize N * 2 ^ 35 % A = D at hd hm
  generalize FP.Core.inUnits c3 q3 (-1074) = Z at k1 ⊢
  generalize 2 ^ 1039 = W at k1 hW ⊢
  have hNU : N * FP.Core.one64 = (A * C + D) * W := by rw [hW, ← Nat.mul_assoc, hd]
  rw [hNU] at k1 ⊢
  generalize FP.Core.one64 = U at k1 hU
  have f1 : ∀ z : Nat, ((((A * C + D) * W * U : Nat) : Int) - ((z * (A * U) : Nat) : Int)) = ((((A * C + D) * W : Nat) : Int) - ((z * A : Nat) : Int)) * (U : Int) := by
    intro z
    rw [Int.sub_mul, ← Int.natCast_mul, ← Int.natCast_mul, Nat.mul_assoc z]
  rw [f1, f1, Int.natAbs_mul, Int.natAbs_mul, Int.natAbs_natCast] at k1
  have k2 := Nat.le_of_mul_le_mul_right k1 hU
  have f2 : ((((A * C + D) * W : Nat) : Int) - ((C * W * A : Nat) : Int)) = ((D * W : Nat) : Int) := by
    have : (A * C + D) * W = C * W * A + D * W := by rw [Nat.add_mul, Nat.mul_comm A C, Nat.mul_assoc, Nat.mul_comm A W, ← Nat.mul_assoc]
    rw [this]
    omega
  rw [f2, Int.natAbs_natCast] at k2
  exact Nat.le_trans k2 (Nat.mul_le_mul_right _ (by omega))
theorem db_v19 : FP.Core.zmag FP.Core.b64 (FP.Core.val64 0x4120000000000000) = 2 ^ 19 * FP.Core.one64 := by decide +kernel
theorem db_top19 : 2 ^ 19 * FP.Core.one64 < FP.Core.b64.tails * 2 ^ (FP.Core.b64.exps - 2) := by decide +kernel
theorem db_small : 64 * 2 ^ 1039 ≤ FP.Core.one64 := by decide +kernel
/-- the product: a number, near the sum -/
theorem db_prod {c2 c3 N A : Nat} {q2 q3 : Int} (l2 : -1074 ≤ q2) (l3 : -1074 ≤ q3) (z2 : FP.Core.inUnits c2 q2 (-1074) = A * FP.Core.one64) (hN : N < 2 ^ 18)
    (hq : (((N * FP.Core.one64 : Nat) : Int) - ((FP.Core.inUnits c3 q3 (-1074) * A : Nat) : Int)).natAbs ≤ 64 * 2 ^ 1039) :
    ∃ c q, FP.Core.roundRatio FP.Core.b64 false (c3 * c2) 1 (q3 + q2) = .fin false c q ∧ (-1074 ≤ q → (((N * FP.Core.one64 : Nat) : Int) - ((FP.Core.inUnits c q (-1074) : Nat) : Int)).natAbs ≤ 128 * 2 ^ 1039) := by
  have e5 : FP.Core.inUnits N 0 (-1074) = N * FP.Core.one64 := by unfold FP.Core.one64; rfl
  have hU : 0 < FP.Core.one64 := FP.Core.one64_pos
  rcases FP.Core.roundRatio_cases FP.Core.b64 false (c3 * c2) 1 (q3 + q2) with ⟨c, q, h⟩ | h
  · refine ⟨c, q, h, fun l4 => ?_⟩
    have k1 := db_nearP (c' := N) (q' := 0) l3 l2 l4 h (by omega) (by decide)
    rw [z2, e5] at k1
    generalize FP.Core.inUnits c3 q3 (-1074) = Z at k1 hq
    generalize FP.Core.inUnits c q (-1074) = Y at k1 ⊢
    generalize 2 ^ 1039 = W at hq ⊢
    generalize N * FP.Core.one64 = NU at k1 hq ⊢
    generalize FP.Core.one64 = U at k1 hU
    have f1 : ∀ z : Nat, (((Z * (A * U) : Nat) : Int) - ((z * U : Nat) : Int)) = (((Z * A : Nat) : Int) - (z : Int)) * (U : Int) := by
      intro z
      rw [Int.sub_mul, ← Int.natCast_mul, ← Int.natCast_mul, Nat.mul_assoc]
    rw [f1, f1, Int.natAbs_mul, Int.natAbs_mul, Int.natAbs_natCast] at k1
    have k2 := Nat.le_of_mul_le_mul_right k1 hU
    generalize Z * A = ZA at k2 hq
    omega
  · exfalso
    have hle := FP.Core.zmag_roundRatio_le FP.Core.good_b64 (s := false) (A := c3 * c2) (B := 1) (e := q3 + q2) (e0 := -2148) (V := FP.Core.val64 0x4120000000000000) (by decide) (FP.Core.val64_fits _) (by decide +kernel) (by decide) (by omega) ?_
    · rw [h, db_v19] at hle
      exact absurd db_top19 (Nat.not_lt.mpr hle)
    · have hz : (q3 + q2 - -2148).toNat = (q3 - -1074).toNat + (q2 - -1074).toNat := by omega
      have e1 : FP.Core.inUnits (c3 * c2) (q3 + q2) (-2148) = FP.Core.inUnits c3 q3 (-1074) * FP.Core.inUnits c2 q2 (-1074) := by
        unfold FP.Core.inUnits
        rw [hz, Nat.pow_add]
        ac_rfl
      have e2 : 2 ^ (FP.Core.b64.qmin - -2148).toNat = FP.Core.one64 := by unfold FP.Core.one64; rfl
      have hs := db_small
      rw [e1, e2, db_v19, z2, Nat.mul_one]
      generalize FP.Core.inUnits c3 q3 (-1074) = Z at hq ⊢
      generalize 64 * 2 ^ 1039 = W at hq hs
      generalize FP.Core.one64 = U at hq hs ⊢
      rw [← Nat.mul_assoc]
      refine Nat.mul_le_mul_right _ ?_
      have hNU : N * U ≤ (2 ^ 19 - 1) * U := Nat.mul_le_mul_right _ (by omega)
      generalize N * U = NU at hq hNU
      generalize Z * A = ZA at hq ⊢
      omega
theorem db_128 : 128 * 2 ^ 1039 = 2 ^ 1046 := by
  rw [show (128 : Nat) = 2 ^ 7 from rfl, ← Nat.pow_add]
/-- all three: numbers, and the last near nothing -/
theorem db_mean {a b : Int32} {N A : Nat} (ha : a.toInt = N) (hb : b.toInt = A) (hN : N < 2 ^ 18) (hA : 0 < A) (hA2 : A ≤ 64) :
    FP.Core.DFin (FP.ddiv (FP.i2d a) (FP.i2d b)) ∧ FP.Core.DFin (FP.dmul (FP.ddiv (FP.i2d a) (FP.i2d b)) (FP.i2d b)) ∧
    FP.Core.val64 (FP.dsub (FP.dmul (FP.ddiv (FP.i2d a) (FP.i2d b)) (FP.i2d b)) (FP.i2d a)) ≠ .nan ∧
    FP.Core.zval FP.Core.b64 (FP.Core.val64 (FP.dsub (FP.dmul (FP.ddiv (FP.i2d a) (FP.i2d b)) (FP.i2d b)) (FP.i2d a))) ≤ ((2 ^ 1046 : Nat) : Int) ∧
    -((2 ^ 1046 : Nat) : Int) ≤ FP.Core.zval FP.Core.b64 (FP.Core.val64 (FP.dsub (FP.dmul (FP.ddiv (FP.i2d a) (FP.i2d b)) (FP.i2d b)) (FP.i2d a))) := by
  obtain ⟨c1, q1, v1, l1, u1, z1⟩ := db_int ha
  obtain ⟨c2, q2, v2, l2, u2, z2⟩ := db_int hb
  have hc : 0 < c2 := by
    rcases Nat.eq_zero_or_pos c2 with h | h
    · exfalso
      rw [h] at z2
      unfold FP.Core.inUnits at z2
      rw [Nat.zero_mul] at z2
      have := Nat.mul_pos hA FP.Core.one64_pos
      omega
    · exact h
  obtain ⟨c3, q3, h3⟩ := db_qfin l1 l2 u2 z1 z2 hc (Nat.le_of_lt hN) hA
  have v3 : FP.Core.val64 (FP.Core.ddiv (FP.Core.i2d a) (FP.Core.i2d b)) = .fin false c3 q3 := by
    rw [FP.Core.val64_ddiv, v1, v2]
    show (if c2 = 0 then _ else FP.Core.roundRatio FP.Core.b64 (false != false) c1 c2 (q1 - q2)) = _
    rw [if_neg (by omega)]
    exact h3
  have f3 := FP.Core.val64_fits (FP.Core.ddiv (FP.Core.i2d a) (FP.Core.i2d b))
  rw [v3] at f3
  have k3 := db_quot l1 l2 u2 f3.2.1 z1 z2 hc hN hA hA2 h3
  obtain ⟨c4, q4, h4, k4⟩ := db_prod l2 f3.2.1 z2 hN k3
  have v4 : FP.Core.val64 (FP.Core.dmul (FP.Core.ddiv (FP.Core.i2d a) (FP.Core.i2d b)) (FP.Core.i2d b)) = .fin false c4 q4 := by
    rw [FP.Core.val64_dmul, v3, v2]
    exact h4
  have f4 := FP.Core.val64_fits (FP.Core.dmul (FP.Core.ddiv (FP.Core.i2d a) (FP.Core.i2d b)) (FP.Core.i2d b))
  have f1 := FP.Core.val64_fits (FP.Core.i2d a)
  have k5 := k4 (by rw [v4] at f4; exact f4.2.1)
  rw [db_128] at k5
  have g4 : FP.Core.zval FP.Core.b64 (.fin false c4 q4) = ((FP.Core.inUnits c4 q4 (-1074) : Nat) : Int) := rfl
  have g1 : FP.Core.zval FP.Core.b64 (FP.Core.negate (.fin false c1 q1)) = -((FP.Core.inUnits c1 q1 (-1074) : Nat) : Int) := by rw [FP.Core.zval_negate]; rfl
  have hv : FP.Core.val64 (FP.Core.dsub (FP.Core.dmul (FP.Core.ddiv (FP.Core.i2d a) (FP.Core.i2d b)) (FP.Core.i2d b)) (FP.Core.i2d a)) = FP.Core.round FP.Core.b64 (FP.Core.exactSum (.fin false c4 q4) (FP.Core.negate (.fin false c1 q1))) := by
    rw [FP.Core.val64_dsub, v4, v1]
  rw [v4] at f4
  rw [v1] at f1
  have f1n := FP.Core.negate_fits f1
  refine ⟨⟨_, _, _, v3⟩, ⟨_, _, _, v4⟩, ?_, ?_, ?_⟩
  · show FP.Core.val64 (FP.Core.dsub (FP.Core.dmul (FP.Core.ddiv (FP.Core.i2d a) (FP.Core.i2d b)) (FP.Core.i2d b)) (FP.Core.i2d a)) ≠ .nan
    rw [hv, Ne, FP.Core.round_nan]
    exact FP.Core.Datum.noConfusion
  · show FP.Core.zval FP.Core.b64 (FP.Core.val64 (FP.Core.dsub (FP.Core.dmul (FP.Core.ddiv (FP.Core.i2d a) (FP.Core.i2d b)) (FP.Core.i2d b)) (FP.Core.i2d a))) ≤ _
    rw [hv, ← db_v28]
    refine FP.Core.sum_le FP.Core.good_b64 ⟨_, _, _, rfl⟩ ⟨true, c1, q1, rfl⟩ f4 f1n (FP.Core.val64_fits _) (by decide +kernel) ?_
    rw [g4, g1, z1, db_v28]
    omega
  · show _ ≤ FP.Core.zval FP.Core.b64 (FP.Core.val64 (FP.Core.dsub (FP.Core.dmul (FP.Core.ddiv (FP.Core.i2d a) (FP.Core.i2d b)) (FP.Core.i2d b)) (FP.Core.i2d a)))
    rw [hv, ← db_v28n]
    refine FP.Core.sum_ge FP.Core.good_b64 ⟨_, _, _, rfl⟩ ⟨true, c1, q1, rfl⟩ f4 f1n (FP.Core.val64_fits _) (by decide +kernel) ?_
    rw [g4, g1, z1, db_v28n]
    omega
theorem db_z0 : FP.Core.zval FP.Core.b64 (FP.Core.val64 0) = 0 := by decide +kernel
/-- its absolute value is less than 0.0001 -/
theorem db_abs {r : UInt64} (hn : FP.Core.val64 r ≠ .nan) (h1 : FP.Core.zval FP.Core.b64 (FP.Core.val64 r) ≤ ((2 ^ 1046 : Nat) : Int)) (h2 : -((2 ^ 1046 : Nat) : Int) ≤ FP.Core.zval FP.Core.b64 (FP.Core.val64 r)) :
    FP.Core.val64 (r &&& 0x7fffffffffffffff) ≠ .nan ∧ FP.dcmp (r &&& 0x7fffffffffffffff) 0x3F1A36E2EB1C432D = some .lt := by
  have h0 : FP.Core.val64 0 ≠ .nan := by decide +kernel
  have hc4 : FP.Core.val64 0x3F1A36E2EB1C432D ≠ .nan := by decide +kernel
  have hd := FP.Core.dcmp_zval hn h0
  rw [db_z0] at hd
  have h5 := db_c4
  generalize ((2 ^ 1046 : Nat) : Int) = B at h1 h2 h5
  have fin : ∀ x : UInt64, FP.Core.val64 x ≠ .nan → FP.Core.zval FP.Core.b64 (FP.Core.val64 x) ≤ B → FP.dcmp x 0x3F1A36E2EB1C432D = some .lt := by
    intro x hx hz
    show FP.Core.dcmp x 0x3F1A36E2EB1C432D = some .lt
    rw [FP.Core.dcmp_zval hx hc4, (FP.Core.compare_lt_iff _ _).mpr (by omega)]
  rcases Int.lt_trichotomy (FP.Core.zval FP.Core.b64 (FP.Core.val64 r)) 0 with h | h | h
  · rw [(FP.Core.compare_lt_iff _ _).mpr h] at hd
    rw [FP.Core.abs_neg hd]
    have e : FP.Core.val64 (FP.Core.dneg r) = FP.Core.negate (FP.Core.val64 r) := FP.Core.val64_dneg r
    have hn2 : FP.Core.val64 (FP.Core.dneg r) ≠ .nan := by rw [e]; exact FP.Core.negate_ne_nan hn
    exact ⟨hn2, fin _ hn2 (by rw [e, FP.Core.zval_negate]; omega)⟩
  · rw [(FP.Core.compare_eq_iff _ _).mpr h] at hd
    rw [FP.Core.abs_zero hd]
    exact ⟨h0, fin _ h0 (by rw [db_z0]; omega)⟩
  · rw [(FP.Core.compare_gt_iff _ _).mpr h] at hd
    rw [FP.Core.abs_pos hd]
    exact ⟨hn, fin _ hn h1⟩
