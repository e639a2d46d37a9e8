/-! INVARIANTS: depth, shear, risk, size -/
theorem vSum_head (D : Nat → Int32) : ∀ (n lo : Nat), vSum D lo (n + 1) = D lo + vSum D (lo + 1) n
  | 0, lo => by
    show (0 : Int32) + D (lo + 0) = D lo + 0
    rw [Int32.zero_add, Int32.add_zero]
    rfl
  | n + 1, lo => by
    have ih := vSum_head D n lo
    show vSum D lo (n + 1) + D (lo + (n + 1)) = D lo + (vSum D (lo + 1) n + D (lo + 1 + n))
    rw [ih, Int32.add_assoc, show lo + (n + 1) = lo + 1 + n from by omega]
theorem vDepth_step {x : sV} {n : Nat} (h : n < x.1) : vDepth (n + 1) x + x.2.2.2.1 n = vDepth n x := by
  unfold vDepth
  rw [show x.1 - n = (x.1 - (n + 1)) + 1 from by omega, vSum_head, Int32.add_comm]
theorem vDepth_top (x : sV) : vDepth x.1 x = 0 := by
  unfold vDepth
  rw [Nat.sub_self]
  rfl
theorem vDepth_sumD (x : sV) : vDepth 0 x = vSumD x x.1 := by
  have h : ∀ n, vSum x.2.2.2.1 0 n = vSumD x n := by
    intro n
    induction n with
    | zero => rfl
    | succ n ih =>
      show vSum x.2.2.2.1 0 n + x.2.2.2.1 (0 + n) = vSumD x n + x.2.2.2.1 n
      rw [ih, Nat.zero_add]
  exact h x.1
theorem vSum_rng {D : Nat → Int32} {lo : Nat} : ∀ {n : Nat}, n ≤ 8 → (∀ k, k < n → IR 1 300 (D (lo + k))) → (n : Int) ≤ (vSum D lo n).toInt ∧ (vSum D lo n).toInt ≤ 300 * n
  | 0, _, _ => ⟨Int.le_refl 0, Int.le_refl 0⟩
  | n + 1, hn, h => by
    have ih := vSum_rng (D := D) (lo := lo) (n := n) (by omega) (fun k hk => h k (by omega))
    have q := h n (by omega)
    unfold IR at q
    show ((n + 1 : Nat) : Int) ≤ (vSum D lo n + D (lo + n)).toInt ∧ (vSum D lo n + D (lo + n)).toInt ≤ 300 * ((n + 1 : Nat) : Int)
    rw [ir_add (by omega) (by omega)]
    omega
theorem vDepth_rng {x : sV} (h : IS x) {lo : Nat} (hlo : lo ≤ x.1) : ((x.1 - lo : Nat) : Int) ≤ (vDepth lo x).toInt ∧ (vDepth lo x).toInt ≤ 300 * ((x.1 - lo : Nat) : Int) :=
  vSum_rng (by have := h.1; omega) (fun k hk => (h.2.1 (lo + k) (by omega)).1)
theorem vStress_0 (l : Nat) (slope : Int32) (x : sV) : vStress l 0 slope x = 0 := by
  unfold vStress
  split
  · rfl
  · dsimp only
    rw [Int32.zero_mul, Int32.zero_div]
    split <;> rfl
theorem vShearL_spec (slope : Int32) (x : sV) : ∀ (n : Nat) (sh gr ab : Int32), n ≤ x.1 → ab = vDepth n x → (sh = -1 ∨ ∃ k, k + 1 < x.1 ∧ sh = nI k ∧ 0 < vStress k (vDepth (k + 1) x) slope x) → (vShearL slope x n sh gr ab = -1 ∨ ∃ k, k + 1 < x.1 ∧ vShearL slope x n sh gr ab = nI k ∧ 0 < vStress k (vDepth (k + 1) x) slope x)
  | 0, sh, gr, ab, _, _, h => h
  | n + 1, sh, gr, ab, hn, hab, h => by
    rw [vShearL]
    have hab2 : ab + x.2.2.2.1 n = vDepth n x := by rw [hab]; exact vDepth_step (by omega)
    split
    · rename_i hc
      refine vShearL_spec slope x n _ _ _ (by omega) hab2 (Or.inr ⟨n, ?_, rfl, by rw [← hab]; exact hc.1⟩)
      by_cases e : n + 1 = x.1
      · exfalso
        have z := hc.1
        rw [hab, e, vDepth_top, vStress_0] at z
        exact absurd z (by decide)
      · omega
    · exact vShearL_spec slope x n _ _ _ (by omega) hab2 h
theorem vShear_spec (slope : Int32) (x : sV) : vShear slope x = -1 ∨ ∃ k, k + 1 < x.1 ∧ vShear slope x = nI k ∧ 0 < vStress k (vDepth (k + 1) x) slope x := by
  unfold vShear
  split
  · exact vShearL_spec slope x x.1 (-1) 0 0 (Nat.le_refl _) (vDepth_top x).symm (Or.inl rfl)
  · exact Or.inl rfl
theorem nI_ne {k : Nat} (h : k < 1000) : ¬ nI k = -1 := by
  intro e
  have : (nI k).toInt = -1 := by rw [e]; rfl
  rw [nI_toInt (by omega)] at this
  omega
theorem vRisk_spec {slope : Int32} {x : sV} (h8 : x.1 ≤ 8) : 0 ≤ vRisk slope x ∧ vRisk slope x ≤ 999 ∧ (vRisk slope x = 0 ↔ vShear slope x = -1) ∧ (vShear slope x < nI x.1 - 1 ∨ vShear slope x = -1) := by
  rcases vShear_spec slope x with e | ⟨k, hk, e, hs⟩
  · unfold vRisk
    rw [if_pos e]
    exact ⟨by decide, by decide, ⟨fun _ => e, fun _ => rfl⟩, Or.inr e⟩
  · have ne : ¬ vShear slope x = -1 := by rw [e]; exact nI_ne (by omega)
    have er : vRisk slope x = vMin (vStress k (vDepth (k + 1) x) slope x) 999 := by
      unfold vRisk
      rw [if_neg ne, e, nI_clamp (by omega)]
    have z := Int32.lt_iff_toInt_lt.mp hs
    have z0 : (0 : Int32).toInt = 0 := rfl
    have z9 : (999 : Int32).toInt = 999 := rfl
    have m := ir_min (x := vStress k (vDepth (k + 1) x) slope x) (y := 999)
    rw [z9] at m
    rw [z0] at z
    rw [er]
    refine ⟨Int32.le_iff_toInt_le.mpr (by rw [m, z0]; omega), Int32.le_iff_toInt_le.mpr (by rw [m, z9]; omega), ⟨fun q => ?_, fun q => absurd q ne⟩, Or.inl ?_⟩
    · exfalso
      have q2 : (vMin (vStress k (vDepth (k + 1) x) slope x) 999).toInt = 0 := by rw [q]; rfl
      omega
    · rw [e, show nI x.1 - 1 = nI (x.1 - 1) from ?_]
      · exact nI_lt (by omega) (by omega)
      · rw [← nI_dec]
        have := nI_1 (x.1 - 1)
        rw [show x.1 - 1 + 1 = x.1 from by omega] at this
        rw [← this, Int32.add_assoc]
        show nI (x.1 - 1) + (Int32.ofInt 1 + Int32.ofInt (-1)) = _
        rw [show Int32.ofInt 1 + Int32.ofInt (-1) = 0 from by decide, Int32.add_zero]
theorem vSlideSize_spec {x : rV} (h : IS x.1) (ha : IR 1 9 (x.2 5)) : (vShear (x.2 3) x.1 = -1 ∧ vSlideSize x = 0) ∨ ∃ k, k + 1 < x.1.1 ∧ vShear (x.2 3) x.1 = nI k ∧ vSlideSize x = vDepth k x.1 * x.2 5 ∧ 0 < (vSlideSize x).toInt ∧ (vSlideSize x).toInt = (vDepth k x.1).toInt * (x.2 5).toInt := by
  unfold vSlideSize vSize
  rcases vShear_spec (x.2 3) x.1 with e | ⟨k, hk, e, hs⟩
  · exact Or.inl ⟨e, if_pos e⟩
  · refine Or.inr ⟨k, hk, e, ?_⟩
    have h8 := h.1
    have ne : ¬ vShear (x.2 3) x.1 = -1 := by rw [e]; exact nI_ne (by omega)
    rw [if_neg ne, e, nI_clamp (by omega)]
    have d := vDepth_rng h (lo := k) (by omega)
    unfold IR at ha
    have b1 : (1 : Int) ≤ (vDepth k x.1).toInt := by omega
    have b2 : (vDepth k x.1).toInt ≤ 2400 := by omega
    have p1 : (vDepth k x.1).toInt * (x.2 5).toInt ≤ 2400 * 9 := Int.mul_le_mul b2 ha.2 (by omega) (by omega)
    have p0 : (1 : Int) * 1 ≤ (vDepth k x.1).toInt * (x.2 5).toInt := Int.mul_le_mul b1 ha.1 (by omega) (by omega)
    have m := ir_mul (x := vDepth k x.1) (y := x.2 5) (by omega) (by omega)
    exact ⟨rfl, by rw [m]; omega, m⟩
