/-! WHAT THE LAW ASKS OF A BLAST, A TEST, A GROOMING -/
theorem vSum_split (D : Nat → Int32) (k : Nat) : ∀ j, vSum D 0 (k + j) = vSum D 0 k + vSum D k j
  | 0 => (Int32.add_zero _).symm
  | j + 1 => by
    show vSum D 0 (k + j) + D (0 + (k + j)) = vSum D 0 k + (vSum D k j + D (k + j))
    rw [vSum_split D k j, Nat.zero_add, Int32.add_assoc]
theorem i32_sub_l (a b : Int32) : a + b - a = b := by rw [Int32.add_comm, Int32.add_sub_cancel]
theorem blast_told {x : rV} (h : IS x.1) (ha : IR 1 9 (x.2 5)) (h40 : 40 ≤ vRisk (x.2 3) x.1) : vSlideSize x = x.2 5 * (vDepth 0 x.1 - vDepth 0 (vSlideRun x).1) ∧ 1 ≤ vSlideSize x := by
  rcases vSlideSize_spec h ha with ⟨a, -⟩ | ⟨k, hk, e, hs, hp, -⟩
  · exfalso
    have e : vRisk (x.2 3) x.1 = 0 := by unfold vRisk; rw [if_pos a]
    rw [e] at h40
    exact absurd h40 (by decide)
  · have h8 := h.1
    refine ⟨?_, Int32.le_iff_toInt_le.mpr (by rw [show (1 : Int32).toInt = 1 from rfl]; omega)⟩
    have e1 : (vSlideRun x).1 = (k, 0, x.1.2.2) := by
      show vDrop (vShear (x.2 3) x.1) x.1 = _
      unfold vDrop
      rw [e, if_neg (nI_ne (by omega)), nI_clamp (by omega)]
    have e2 : vDepth 0 (vSlideRun x).1 = vSum x.1.2.2.2.1 0 k := by rw [e1]; rfl
    have e3 : vDepth 0 x.1 = vSum x.1.2.2.2.1 0 k + vDepth k x.1 := by
      show vSum x.1.2.2.2.1 0 x.1.1 = vSum x.1.2.2.2.1 0 k + vSum x.1.2.2.2.1 k (x.1.1 - k)
      rw [← vSum_split, show k + (x.1.1 - k) = x.1.1 from by omega]
    rw [e2, e3, i32_sub_l, hs, Int32.mul_comm]
theorem test_told {mu : Nat → Int32} {x : rV} {i : Nat} (h : x.1.1 ≤ 8) (h4 : 0 ≤ (mu 4).toInt) (h4b : (mu 4).toInt ≤ 1000) (hi : i < 8) : IR (-4) 4 (vTell mu (nI i) x - vRisk (x.2 3) x.1) := by
  have r := vRisk_spec (slope := x.2 3) h
  have r0 := Int32.le_iff_toInt_le.mp r.1
  have r9 := Int32.le_iff_toInt_le.mp r.2.1
  have n0 : (0 : Int32).toInt = 0 := rfl
  have n999 : (999 : Int32).toInt = 999 := rfl
  have n5 : (5 : Int32).toInt = 5 := rfl
  have n3 : (3 : Int32).toInt = 3 := rfl
  have n9 : (9 : Int32).toInt = 9 := rfl
  have n4 : (4 : Int32).toInt = 4 := rfl
  rw [n0] at r0
  rw [n999] at r9
  have ni := nI_toInt (n := i) (by omega)
  have a := ir_mul (x := 5) (y := mu 4) (by rw [n5]; omega) (by rw [n5]; omega)
  have b := ir_mul (x := 3) (y := nI i) (by rw [n3, ni]; omega) (by rw [n3, ni]; omega)
  rw [n5] at a
  rw [n3, ni] at b
  have c := ir_add (x := 5 * mu 4) (y := 3 * nI i) (by omega) (by omega)
  have d := ir_mod (a := 5 * mu 4 + 3 * nI i) (b := 9) (by omega)
  rw [n9] at d
  have e := ir_sub (x := (5 * mu 4 + 3 * nI i) % 9) (y := 4) (by rw [n4]; omega) (by rw [n4]; omega)
  rw [n4] at e
  have f := ir_add (x := vRisk (x.2 3) x.1) (y := (5 * mu 4 + 3 * nI i) % 9 - 4) (by omega) (by omega)
  have m := ir_max (x := vRisk (x.2 3) x.1 + ((5 * mu 4 + 3 * nI i) % 9 - 4)) (y := 0)
  rw [n0] at m
  have t : vTell mu (nI i) x = vMax (vRisk (x.2 3) x.1 + ((5 * mu 4 + 3 * nI i) % 9 - 4)) 0 := rfl
  rw [← t] at m
  have s := ir_sub (x := vTell mu (nI i) x) (y := vRisk (x.2 3) x.1) (by omega) (by omega)
  exact ⟨by rw [s]; omega, by rw [s]; omega⟩
theorem press_fact {x : sV} (h : IS x) (h2 : 2 ≤ x.1) : (vPress x).1 = x.1 - 1 ∧ (vPress x).2.2.2.2.2 (x.1 - 2) = 3 ∧ (vDepth 0 (vPress x)).toInt ≤ (vDepth 0 x).toInt := by
  have hp := h.press
  have d := (vDepth_z h (lo := 0) (Nat.zero_le _)).1
  have d' := (vDepth_z hp (lo := 0) (Nat.zero_le _)).1
  obtain ⟨c, w, sn, D, H, T⟩ := x
  match c, h2 with
  | c + 2, _ =>
    refine ⟨rfl, ?_, ?_⟩
    · show upd T c 3 c = 3
      exact upd_e
    · rw [d, d']
      have q := (h.2.1 c (by show c < c + 2; omega)).1
      have q1 := (h.2.1 (c + 1) (by show c + 1 < c + 2; omega)).1
      unfold IR at q q1
      dsimp only at q q1
      have a := ir_add (x := D c) (y := D (c + 1)) (by omega) (by omega)
      have n9 : (9 : Int32).toInt = 9 := rfl
      have b := ir_mul (x := D c + D (c + 1)) (y := 9) (by rw [n9]; omega) (by rw [n9]; omega)
      rw [n9] at b
      have dv := ir_div (a := (D c + D (c + 1)) * 9) (b := 10) (by omega) (by decide)
      rw [show (10 : Int32).toInt = 10 from rfl] at dv
      have mn := ir_min (x := (D c + D (c + 1)) * 9 / 10) (y := 300)
      rw [show (300 : Int32).toInt = 300 from rfl] at mn
      have lo := zSum_mono (D := D) (D' := upd D c (vMin ((D c + D (c + 1)) * 9 / 10) 300)) (lo := 0) (n := c) (n' := c) (Nat.le_refl c) (fun k hk => by rw [Nat.zero_add, upd_n (by omega)]; exact Int.le_refl _) (fun k hk => by
        have z := (h.2.1 (0 + k) (by show 0 + k < c + 2; omega)).1
        unfold IR at z
        dsimp only at z
        omega)
      show zSum (upd D c (vMin ((D c + D (c + 1)) * 9 / 10) 300)) 0 c + (upd D c (vMin ((D c + D (c + 1)) * 9 / 10) 300) (0 + c)).toInt ≤ zSum D 0 c + (D (0 + c)).toInt + (D (0 + (c + 1))).toInt
      rw [Nat.zero_add, Nat.zero_add, upd_e, mn]
      omega
