/-! THE CLASS: its constructors; of a mountain what a fresh object shows -/
def v0M : Nat → Int32 := fun j => if j = 8 then 100 else if j = 7 then 50 else if j = 6 then 500 else 0
set_option maxHeartbeats 400000 in
set_option maxRecDepth 100000 in
theorem s_X0_init {d a : Nat} {h : mj_H} : mj_Rv m_X0_init (d + 1) 0 0 [.ref a] h (fun h1 => h1 = h) := by
  refine mj_entry (by refine ⟨by decide +kernel, by decide, rfl, Nat.le_of_ble_eq_true rfl⟩) ?_
  show mj_W _ _ _ _ _ 0 [.ref a] [] _
  refine mj_aload_n (i := 0) (q := 1) dX0_init_0 rfl rfl rfl ?_
  refine mj_objInit (q := 4) dX0_init_1 ln_X0_1 (Nat.le_of_ble_eq_true rfl) rfl ?_
  exact mj_return dX0_init_4 rfl ⟨rfl, rfl⟩
set_option maxHeartbeats 400000 in
set_option maxRecDepth 100000 in
theorem s_X4_init {d a : Nat} {h : mj_H} : mj_Rv m_X4_init (d + 1) 0 0 [.ref a] h (fun h1 => h1 = h) := by
  refine mj_entry (by refine ⟨by decide +kernel, by decide, rfl, Nat.le_of_ble_eq_true rfl⟩) ?_
  show mj_W _ _ _ _ _ 0 [.ref a] [] _
  refine mj_aload_n (i := 0) (q := 1) dX4_init_0 rfl rfl rfl ?_
  refine mj_objInit (q := 4) dX4_init_1 ln_X4_1 (Nat.le_of_ble_eq_true rfl) rfl ?_
  exact mj_return dX4_init_4 rfl ⟨rfl, rfl⟩
set_option maxHeartbeats 400000 in
set_option maxRecDepth 100000 in
theorem s_X3_init {d s : Nat} {K : Nat → mj_K} {f : Nat → Nat → Int32} {g : Nat → Nat → Option Nat} (hK : K s = (2, 5, 0)) : mj_Rv m_X3_init (d + 1) 3 24 [.ref s] (s + 1, K, f, g) (fun h1 => ∃ K1 f1 g1, h1 = (s + 4, K1, f1, g1) ∧ mj_old s K K1 f f1 g g1) := by
  refine mj_entry (by refine ⟨by decide +kernel, by decide, rfl, Nat.le_of_ble_eq_true rfl⟩) ?_
  show mj_W _ _ _ _ _ 0 [.ref s] [] _
  refine mj_aload_n (i := 0) (q := 1) dX3_init_0 rfl rfl rfl ?_
  refine mj_objInit (q := 4) dX3_init_1 ln_X3_3 (Nat.le_of_ble_eq_true rfl) rfl ?_
  refine mj_aload_n (i := 0) (q := 5) dX3_init_4 rfl rfl rfl ?_
  refine mj_num2 (v := 8) (q := 7) (by decide) dX3_init_5 rfl ?_
  refine mj_newaB (L := 8) (mc := 2) (ms := 16) (q := 9) dX3_init_7 (by decide) (by decide) (by decide) rfl rfl rfl ?_
  refine mj_putr (x := 0) (q := 12) dX3_init_9 fl_X3_9 rfl rfl (by (repeat rw [mj_rown (by omega)]); assumption) rfl rfl rfl (fun _ => rfl) (fun _ => rfl) ?_
  refine mj_aload_n (i := 0) (q := 13) dX3_init_12 rfl rfl rfl ?_
  refine mj_num2 (v := 8) (q := 15) (by decide) dX3_init_13 rfl ?_
  refine mj_newaB (L := 8) (mc := 1) (ms := 8) (q := 17) dX3_init_15 (by decide) (by decide) (by decide) rfl rfl rfl ?_
  refine mj_putr (x := 0) (q := 20) dX3_init_17 fl_X3_15 rfl rfl (by (repeat rw [mj_rown (by omega)]); assumption) rfl rfl rfl (fun _ => rfl) (fun _ => rfl) ?_
  refine mj_aload_n (i := 0) (q := 21) dX3_init_20 rfl rfl rfl ?_
  refine mj_num2 (v := 8) (q := 23) (by decide) dX3_init_21 rfl ?_
  refine mj_newaB (L := 8) (mc := 0) (ms := 0) (q := 25) dX3_init_23 (by decide) (by decide) (by decide) rfl rfl rfl ?_
  refine mj_putr (x := 0) (q := 28) dX3_init_25 fl_X3_18 rfl rfl (by (repeat rw [mj_rown (by omega)]); assumption) rfl rfl rfl (fun _ => rfl) (fun _ => rfl) ?_
  exact mj_return dX3_init_28 rfl ⟨rfl, ⟨_, _, _, rfl, (fun a ha => by refine ⟨?_, ?_, ?_⟩ <;> (repeat (first | rw [mj_rown (by omega)] | rw [mj_upr (by omega)])) <;> (try rfl))⟩⟩
set_option maxHeartbeats 400000 in
set_option maxRecDepth 100000 in
theorem s_X2_init {d r : Nat} {K : Nat → mj_K} {f : Nat → Nat → Int32} {g : Nat → Nat → Option Nat} (hK : K r = (2, 4, 0)) : mj_Rv m_X2_init (d + 2) 4 30 [.ref r] (r + 1, K, f, g) (fun h1 => ∃ K1 f1 g1, h1 = (r + 5, K1, f1, g1) ∧ mj_old r K K1 f f1 g g1 ∧ K1 r = (2, 4, 0)) := by
  refine mj_entry (by refine ⟨by decide +kernel, by decide, rfl, Nat.le_of_ble_eq_true rfl⟩) ?_
  show mj_W _ _ _ _ _ 0 [.ref r] [] _
  refine mj_aload_n (i := 0) (q := 1) dX2_init_0 rfl rfl rfl ?_
  refine mj_objInit (q := 4) dX2_init_1 ln_X2_3 (Nat.le_of_ble_eq_true rfl) rfl ?_
  refine mj_aload_n (i := 0) (q := 5) dX2_init_4 rfl rfl rfl ?_
  refine mj_newB (ci := 5) (mc := 3) (ms := 24) (q := 8) dX2_init_5 (by decide) cl_X2_9 in_X3 rfl rfl rfl ?_
  refine mj_dup (q := 9) rfl dX2_init_8 rfl ?_
  refine mj_kI0v (K := m_X3_init) (q := 12) (mc1 := 3) (ms1 := 24) (mc := 0) (ms := 0) dX2_init_9 ln_X2_11 ok_X3_init (Nat.le_of_ble_eq_true rfl) (by decide) rfl rfl rfl (s_X3_init (s := r + 1) mj_rows) (fun h1 hq => ?_)
  obtain ⟨K1, f1, g1, rfl, hO⟩ := hq
  have k1 : K1 r = (2, 4, 0) := by rw [(hO r (by omega)).1, mj_rown (by omega)]; exact hK
  refine mj_putr (x := 0) (q := 15) dX2_init_12 fl_X2_12 rfl rfl (by first | assumption | simp [mj_up, mj_upl, mj_row, *]) rfl rfl rfl (fun _ => rfl) (fun _ => rfl) ?_
  refine mj_aload_n (i := 0) (q := 16) dX2_init_15 rfl rfl rfl ?_
  refine mj_num1 (v := (-1)) (q := 17) rfl dX2_init_16 rfl ?_
  refine mj_putf (x := 0) (q := 20) dX2_init_17 fl_X2_18 rfl rfl (by first | assumption | simp [mj_up, mj_upl, mj_row, *]) rfl rfl rfl ?_
  exact mj_return dX2_init_20 rfl ⟨rfl, ⟨_, _, _, rfl, (fun a ha => by have h9 := hO a (by omega); rw [mj_rown (by omega), mj_rown (by omega), mj_rown (by omega)] at h9; exact ⟨h9.1, (mj_upr (by omega)).trans h9.2.1, (mj_upr (by omega)).trans h9.2.2⟩), k1⟩⟩
set_option maxHeartbeats 400000 in
set_option maxRecDepth 100000 in
theorem s_X1_init {d m : Nat} {K : Nat → mj_K} {f : Nat → Nat → Int32} {g : Nat → Nat → Option Nat} (hK : K m = (2, 3, 0)) (hf : f m = fun _ => 0) : mj_C m_X1_init (d + 3) 46 500 [.ref m] (m + 1, K, f, g) (fun v h1 => v = none ∧ ∃ K1 f1 g1, h1 = (m + 47, K1, f1, g1) ∧ mj_old m K K1 f f1 g g1 ∧ K1 m = (2, 3, 0) ∧ g1 m 0 = some (m + 1) ∧ K1 (m + 1) = (1, 4, 2) ∧ g1 (m + 1) 0 = some (m + 2) ∧ K1 (m + 2) = (2, 2, 0) ∧ f1 m = v0M, fun _ _ => False) := by
  have runs : ∀ (j i : Nat) (K1 : Nat → mj_K) (f1 : Nat → Nat → Int32) (g1 : Nat → Nat → Option Nat), i + j = 8 → mj_old m K K1 f f1 g g1 → K1 m = (2, 3, 0) → (f1 m = fun _ => 0) → g1 m 0 = some (m + 1) → K1 (m + 1) = (1, 4, 2) → (g1 (m + 1) 0 = some (m + 2) ∧ K1 (m + 2) = (2, 2, 0)) → g1 m 1 = some (m + 6) → K1 (m + 6) = (1, 8, 4) → mj_W m_X1_init (d + 3) (5 * j) (48 * j) (fun v h1 => v = none ∧ ∃ K1 f1 g1, h1 = (m + 47, K1, f1, g1) ∧ mj_old m K K1 f f1 g g1 ∧ K1 m = (2, 3, 0) ∧ g1 m 0 = some (m + 1) ∧ K1 (m + 1) = (1, 4, 2) ∧ g1 (m + 1) 0 = some (m + 2) ∧ K1 (m + 2) = (2, 2, 0) ∧ f1 m = v0M, fun _ _ => False) 49 [.ref m, .int (nI i)] [] (m + 7 + 5 * i, K1, f1, g1) := by
    intro j
    induction j with
    | zero =>
      intro i K1 f1 g1 hi a1 a2 a3 a4 a5 a6 a7 a8
      have hi : i = 8 := by omega
      subst hi
      show mj_W _ _ 0 0 _ _ _ _ _
      refine mj_iload_n (i := 1) (q := 50) dX1_init_49 rfl rfl rfl ?_
      refine mj_num2 (v := 8) (q := 52) (by decide) dX1_init_50 rfl ?_
      refine mj_icmp_ge (tgt := 74) (q := 55) dX1_init_52 (by decide) rfl (fun c_52 => ?_) (fun c_52 => absurd (Int32.le_refl _) c_52)
      refine mj_aload_n (i := 0) (q := 75) dX1_init_74 rfl rfl rfl ?_
      refine mj_num3 (v := 500) (q := 78) (by decide) dX1_init_75 rfl ?_
      refine mj_putf (x := 0) (q := 81) dX1_init_78 fl_X1_25 rfl rfl (by assumption) rfl rfl rfl ?_
      refine mj_aload_n (i := 0) (q := 82) dX1_init_81 rfl rfl rfl ?_
      refine mj_num2 (v := 50) (q := 84) (by decide) dX1_init_82 rfl ?_
      refine mj_putf (x := 0) (q := 87) dX1_init_84 fl_X1_29 rfl rfl (by assumption) rfl rfl rfl ?_
      refine mj_aload_n (i := 0) (q := 88) dX1_init_87 rfl rfl rfl ?_
      refine mj_num2 (v := 100) (q := 90) (by decide) dX1_init_88 rfl ?_
      refine mj_putf (x := 0) (q := 93) dX1_init_90 fl_X1_32 rfl rfl (by assumption) rfl rfl rfl ?_
      exact mj_return dX1_init_93 rfl ⟨rfl, ⟨_, _, _, rfl, a1.tr (((mj_old.putf (Nat.le_refl m)).tr (mj_old.putf (Nat.le_refl m)) (Nat.le_refl m)).tr (mj_old.putf (Nat.le_refl m)) (Nat.le_refl m)) (Nat.le_refl m), a2, a4, a5, a6.1, a6.2, by funext j; simp [mj_up, a3, v0M]⟩⟩
    | succ j ih =>
      intro i K1 f1 g1 hi a1 a2 a3 a4 a5 a6 a7 a8
      refine mj_budget (mc1 := 5 + 5 * j) (ms1 := 48 + 48 * j) (by omega) (by omega) ?_
      refine mj_iload_n (i := 1) (q := 50) dX1_init_49 rfl rfl rfl ?_
      refine mj_num2 (v := 8) (q := 52) (by decide) dX1_init_50 rfl ?_
      refine mj_icmp_ge (tgt := 74) (q := 55) dX1_init_52 (by decide) rfl (fun c_52 => absurd c_52 (nI_ge (a := i) (b := 8) (by omega) (by omega))) (fun c_52 => ?_)
      refine mj_aload_n (i := 0) (q := 56) dX1_init_55 rfl rfl rfl ?_
      refine mj_getr (q := 59) dX1_init_56 fl_X1_20 rfl rfl a2 a7 ?_
      refine mj_iload_n (i := 1) (q := 60) dX1_init_59 rfl rfl rfl ?_
      refine mj_newB (ci := 4) (mc := 4 + 5 * j) (ms := 30 + 48 * j) (q := 63) dX1_init_60 (by decide) cl_X1_18 in_X2 rfl (by omega) (by show 18 + _ = _; omega) ?_
      refine mj_dup (q := 64) rfl dX1_init_63 rfl ?_
      refine mj_kI0v (K := m_X2_init) (q := 67) (mc1 := 4) (ms1 := 30) (mc := 5 * j) (ms := 48 * j) dX1_init_64 ln_X1_24 ok_X2_init (Nat.le_of_ble_eq_true rfl) (by decide) rfl rfl rfl (s_X2_init (r := m + 7 + 5 * i) mj_rows) (fun h1 hq => ?_)
      obtain ⟨K2, f2, g2, rfl, hO, hL⟩ := hq
      have o2 : ∀ a, a < m + 7 + 5 * i → K2 a = K1 a ∧ f2 a = f1 a ∧ g2 a = g1 a := fun a ha => ⟨(hO a ha).1.trans (mj_rown (by omega)), (hO a ha).2.1.trans (mj_rown (by omega)), (hO a ha).2.2.trans (mj_rown (by omega))⟩
      have b8 : K2 (m + 6) = (1, 8, 4) := (o2 (m + 6) (by omega)).1.trans a8
      refine mj_aastn (q := 68) dX1_init_67 rfl b8 ⟨by omega, by omega⟩ hL ?_
      have w3 : ∀ a, a ≠ m + 6 → mj_up g2 (m + 6) i (some (m + 7 + 5 * i)) a = g2 a := fun a ha => mj_upr ha
      refine mj_iinc (i := 1) (q := 71) dX1_init_68 rfl rfl (by decide) rfl ?_
      dsimp only [List.set]
      refine mj_goto (q := 49) dX1_init_71 (by decide) ?_
      rw [show nI i + Int32.ofInt 1 = nI (i + 1) from nI_1 i]
      refine ih (i + 1) K2 f2 _ (by omega) (a1.tr (n2 := m) (fun a ha => ⟨(o2 a (by omega)).1, (o2 a (by omega)).2.1, (w3 a (by omega)).trans (o2 a (by omega)).2.2⟩) (Nat.le_refl m)) ((o2 m (by omega)).1.trans a2) ((o2 m (by omega)).2.1.trans a3) ?_ ((o2 (m + 1) (by omega)).1.trans a5) ⟨?_, (o2 (m + 2) (by omega)).1.trans a6.2⟩ ?_ b8
      · rw [w3 m (by omega), (o2 m (by omega)).2.2]; exact a4
      · rw [w3 (m + 1) (by omega), (o2 (m + 1) (by omega)).2.2]; exact a6.1
      · rw [w3 m (by omega), (o2 m (by omega)).2.2]; exact a7
  have lifts : ∀ (j i : Nat) (K1 : Nat → mj_K) (f1 : Nat → Nat → Int32) (g1 : Nat → Nat → Option Nat), i + j = 4 → mj_old m K K1 f f1 g g1 → K1 m = (2, 3, 0) → (f1 m = fun _ => 0) → g1 m 0 = some (m + 1) → K1 (m + 1) = (1, 4, 2) → (0 < i → g1 (m + 1) 0 = some (m + 2) ∧ K1 (m + 2) = (2, 2, 0)) → mj_W m_X1_init (d + 3) (j + 41) (5 * j + 400) (fun v h1 => v = none ∧ ∃ K1 f1 g1, h1 = (m + 47, K1, f1, g1) ∧ mj_old m K K1 f f1 g g1 ∧ K1 m = (2, 3, 0) ∧ g1 m 0 = some (m + 1) ∧ K1 (m + 1) = (1, 4, 2) ∧ g1 (m + 1) 0 = some (m + 2) ∧ K1 (m + 2) = (2, 2, 0) ∧ f1 m = v0M, fun _ _ => False) 14 [.ref m, .int (nI i)] [] (m + 2 + i, K1, f1, g1) := by
    intro j
    induction j with
    | zero =>
      intro i K1 f1 g1 hi a1 a2 a3 a4 a5 a6
      have hi : i = 4 := by omega
      subst hi
      refine mj_iload_n (i := 1) (q := 15) dX1_init_14 rfl rfl rfl ?_
      refine mj_num1 (v := 4) (q := 16) rfl dX1_init_15 rfl ?_
      refine mj_icmp_ge (tgt := 38) (q := 19) dX1_init_16 (by decide) rfl (fun c_16 => ?_) (fun c_16 => absurd (Int32.le_refl _) c_16)
      refine mj_aload_n (i := 0) (q := 39) dX1_init_38 rfl rfl rfl ?_
      refine mj_num2 (v := 8) (q := 41) (by decide) dX1_init_39 rfl ?_
      refine mj_newqB (L := 8) (ci := 4) (mc := 40) (ms := 392) (q := 44) dX1_init_41 cl_X1_18 (fun _ z => mj_XW.ao31 z) (by decide) (by decide) (by decide) rfl rfl rfl ?_
      have o2 : ∀ a, a < m + 6 → mj_row K1 (m + 6) (1, 8, 4) a = K1 a ∧ mj_row f1 (m + 6) (fun _ => 0) a = f1 a ∧ mj_row g1 (m + 6) (fun _ => none) a = g1 a := fun a ha => ⟨mj_rown (by omega), mj_rown (by omega), mj_rown (by omega)⟩
      have b2 := (o2 m (by omega)).1.trans a2
      refine mj_putr (q := 47) dX1_init_44 fl_X1_20 rfl rfl b2 rfl rfl rfl (fun _ => rfl) (fun _ => rfl) ?_
      refine mj_num1 (v := nI 0) (q := 48) (by decide) dX1_init_47 rfl ?_
      refine mj_istore_n (i := 1) (q := 49) dX1_init_48 rfl rfl (by decide) rfl ?_
      dsimp only [List.set]
      have w3 : ∀ a, a ≠ m → mj_up (mj_row g1 (m + 6) (fun _ => none)) m 1 (some (m + 6)) a = mj_row g1 (m + 6) (fun _ => none) a := fun a ha => mj_upr ha
      refine mj_budget (mc1 := 5 * 8) (ms1 := 48 * 8) (by omega) (by omega) ?_
      refine runs 8 0 _ _ _ (by omega) (a1.tr (n2 := m) (fun a ha => ⟨(o2 a (by omega)).1, (o2 a (by omega)).2.1, (w3 a (by omega)).trans (o2 a (by omega)).2.2⟩) (Nat.le_refl m)) b2 ((o2 m (by omega)).2.1.trans a3) ?_ ((o2 (m + 1) (by omega)).1.trans a5) ⟨?_, (o2 (m + 2) (by omega)).1.trans (a6 (by omega)).2⟩ ?_ mj_rows
      · simp only [mj_up]; rw [if_neg (by omega), (o2 m (by omega)).2.2]; exact a4
      · rw [w3 (m + 1) (by omega), (o2 (m + 1) (by omega)).2.2]; exact (a6 (by omega)).1
      · simp [mj_up]
    | succ j ih =>
      intro i K1 f1 g1 hi a1 a2 a3 a4 a5 a6
      refine mj_iload_n (i := 1) (q := 15) dX1_init_14 rfl rfl rfl ?_
      refine mj_num1 (v := 4) (q := 16) rfl dX1_init_15 rfl ?_
      refine mj_icmp_ge (tgt := 38) (q := 19) dX1_init_16 (by decide) rfl (fun c_16 => absurd c_16 (nI_ge (a := i) (b := 4) (by omega) (by omega))) (fun c_16 => ?_)
      refine mj_aload_n (i := 0) (q := 20) dX1_init_19 rfl rfl rfl ?_
      refine mj_getr (q := 23) dX1_init_20 fl_X1_11 rfl rfl a2 a4 ?_
      refine mj_iload_n (i := 1) (q := 24) dX1_init_23 rfl rfl rfl ?_
      refine mj_newB (ci := 2) (mc := j + 41) (ms := 5 * j + 400) (q := 27) dX1_init_24 (by decide) cl_X1_9 in_X0 rfl (by omega) (by show 5 + _ = _; omega) ?_
      refine mj_dup (q := 28) rfl dX1_init_27 rfl ?_
      refine mj_kIN0v (K := m_X0_init) (q := 31) (mc1 := 0) (ms1 := 0) (mc := j + 41) (ms := 5 * j + 400) dX1_init_28 (fun _ z => mj_XW.nm_X1_17 z) ok_X0_init (Nat.le_of_ble_eq_true rfl) (by decide) rfl (by omega) (by omega) s_X0_init (fun h1 hq => ?_)
      subst hq
      have o2 : ∀ a, a < m + 2 + i → mj_row K1 (m + 2 + i) (2, 2, 0) a = K1 a ∧ mj_row f1 (m + 2 + i) (fun _ => 0) a = f1 a ∧ mj_row g1 (m + 2 + i) (fun _ => none) a = g1 a := fun a ha => ⟨mj_rown (by omega), mj_rown (by omega), mj_rown (by omega)⟩
      have b5 : mj_row K1 (m + 2 + i) (2, 2, 0) (m + 1) = (1, 4, 2) := (o2 (m + 1) (by omega)).1.trans a5
      refine mj_aastn (q := 32) dX1_init_31 rfl b5 ⟨by omega, by omega⟩ mj_rows ?_
      have w3 : ∀ a, a ≠ m + 1 → mj_up (mj_row g1 (m + 2 + i) (fun _ => none)) (m + 1) i (some (m + 2 + i)) a = mj_row g1 (m + 2 + i) (fun _ => none) a := fun a ha => mj_upr ha
      refine mj_iinc (i := 1) (q := 35) dX1_init_32 rfl rfl (by decide) rfl ?_
      dsimp only [List.set]
      refine mj_goto (q := 14) dX1_init_35 (by decide) ?_
      rw [show nI i + Int32.ofInt 1 = nI (i + 1) from nI_1 i]
      refine ih (i + 1) _ _ _ (by omega) (a1.tr (n2 := m) (fun a ha => ⟨(o2 a (by omega)).1, (o2 a (by omega)).2.1, (w3 a (by omega)).trans (o2 a (by omega)).2.2⟩) (Nat.le_refl m)) ((o2 m (by omega)).1.trans a2) ((o2 m (by omega)).2.1.trans a3) ?_ b5 (fun _ => ?_)
      · rw [w3 m (by omega), (o2 m (by omega)).2.2]; exact a4
      · by_cases e : i = 0
        · subst e; exact ⟨by simp [mj_up], by simp [mj_row]⟩
        · refine ⟨?_, (o2 (m + 2) (by omega)).1.trans (a6 (by omega)).2⟩
          simp only [mj_up]
          rw [if_neg (by omega), (o2 (m + 1) (by omega)).2.2]; exact (a6 (by omega)).1
  refine mj_entry (by refine ⟨by decide +kernel, by decide, rfl, Nat.le_of_ble_eq_true rfl⟩) ?_
  show mj_W _ _ _ _ _ 0 [.ref m, .null] [] _
  refine mj_aload_n (i := 0) (q := 1) dX1_init_0 rfl rfl rfl ?_
  refine mj_objInit (q := 4) dX1_init_1 ln_X1_3 (Nat.le_of_ble_eq_true rfl) rfl ?_
  refine mj_aload_n (i := 0) (q := 5) dX1_init_4 rfl rfl rfl ?_
  refine mj_num1 (v := 4) (q := 6) rfl dX1_init_5 rfl ?_
  refine mj_newqB (L := 4) (ci := 2) (mc := 45) (ms := 496) (q := 9) dX1_init_6 cl_X1_9 (fun _ z => mj_XW.ao30 z) (by decide) (by decide) (by decide) rfl rfl rfl ?_
  refine mj_putr (x := 0) (q := 12) dX1_init_9 fl_X1_11 rfl rfl (by first | assumption | (rw [mj_rown (by omega)]; assumption)) rfl rfl rfl (fun _ => rfl) (fun _ => rfl) ?_
  refine mj_num1 (v := nI 0) (q := 13) (by decide) dX1_init_12 rfl ?_
  refine mj_istore_n (i := 1) (q := 14) dX1_init_13 rfl rfl (by decide) rfl ?_
  dsimp only [List.set]
  have w3 : ∀ a, a ≠ m → mj_up (mj_row g (m + 1) (fun _ => none)) m 0 (some (m + 1)) a = mj_row g (m + 1) (fun _ => none) a := fun a ha => mj_upr ha
  refine mj_budget (mc1 := 4 + 41) (ms1 := 5 * 4 + 400) (by omega) (by omega) ?_
  exact lifts 4 0 _ _ _ (by omega) (fun a ha => ⟨mj_rown (by omega), mj_rown (by omega), (w3 a (by omega)).trans (mj_rown (by omega))⟩) ((mj_rown (by omega)).trans hK) ((mj_rown (by omega)).trans hf) (by simp [mj_up]) mj_rows (fun h => absurd h (by omega))
set_option maxHeartbeats 400000 in
set_option maxRecDepth 100000 in
theorem s_X5_init {d x : Nat} {K : Nat → mj_K} {f : Nat → Nat → Int32} {g : Nat → Nat → Option Nat} (hK : K x = (2, 7, 0)) : mj_Rv m_X5_init (d + 4) 142 1600 [.ref x] (x + 1, K, f, g) (fun h1 => ∃ K1 f1 g1, h1 = (x + 143, K1, f1, g1) ∧ mj_old x K K1 f f1 g g1 ∧ K1 x = (2, 7, 0) ∧ g1 x 0 = some (x + 1) ∧ g1 x 3 = some (x + 142) ∧ K1 (x + 1) = (2, 3, 0) ∧ g1 (x + 1) 0 = some (x + 2) ∧ K1 (x + 2) = (1, 4, 2) ∧ g1 (x + 2) 0 = some (x + 3) ∧ K1 (x + 3) = (2, 2, 0) ∧ f1 (x + 1) = v0M ∧ K1 (x + 142) = (2, 6, 0)) := by
  refine mj_entry (by refine ⟨by decide +kernel, by decide, rfl, Nat.le_of_ble_eq_true rfl⟩) ?_
  show mj_W _ _ _ _ _ 0 [.ref x] [] _
  refine mj_aload_n (i := 0) (q := 1) dX5_init_0 rfl rfl rfl ?_
  refine mj_objInit (q := 4) dX5_init_1 ln_X5_1 (Nat.le_of_ble_eq_true rfl) rfl ?_
  refine mj_aload_n (i := 0) (q := 5) dX5_init_4 rfl rfl rfl ?_
  refine mj_newB (ci := 3) (mc := 141) (ms := 1584) (q := 8) dX5_init_5 (by decide) cl_X5_7 in_X1 rfl rfl rfl ?_
  refine mj_dup (q := 9) rfl dX5_init_8 rfl ?_
  refine mj_kI0v (K := m_X1_init) (q := 12) (mc1 := 46) (ms1 := 500) (mc := 95) (ms := 1084) dX5_init_9 ln_X5_9 ok_X1_init (Nat.le_of_ble_eq_true rfl) (by decide) rfl rfl rfl (s_X1_init (m := x + 1) mj_rows mj_rows) (fun h1 hq => ?_)
  obtain ⟨K1, f1, g1, rfl, hO1, q11, q12, q13, q14, q15, q16⟩ := hq
  have k1 : K1 x = (2, 7, 0) := by rw [(hO1 x (by omega)).1, mj_rown (by omega)]; exact hK
  refine mj_putr (x := 0) (q := 15) dX5_init_12 fl_X5_10 rfl rfl (by first | assumption | (rw [mj_rown (by omega)]; assumption)) rfl rfl rfl (fun _ => rfl) (fun _ => rfl) ?_
  refine mj_aload_n (i := 0) (q := 16) dX5_init_15 rfl rfl rfl ?_
  refine mj_newB (ci := 3) (mc := 94) (ms := 1068) (q := 19) dX5_init_16 (by decide) cl_X5_7 in_X1 rfl rfl rfl ?_
  refine mj_dup (q := 20) rfl dX5_init_19 rfl ?_
  refine mj_kI0v (K := m_X1_init) (q := 23) (mc1 := 46) (ms1 := 500) (mc := 48) (ms := 568) dX5_init_20 ln_X5_9 ok_X1_init (Nat.le_of_ble_eq_true rfl) (by decide) rfl rfl rfl (s_X1_init (m := x + 48) mj_rows mj_rows) (fun h1 hq => ?_)
  obtain ⟨K2, f2, g2, rfl, hO2, q21, q22, q23, q24, q25, q26⟩ := hq
  have k2 : K2 x = (2, 7, 0) := by rw [(hO2 x (by omega)).1, mj_rown (by omega)]; exact k1
  refine mj_putr (x := 0) (q := 26) dX5_init_23 fl_X5_16 rfl rfl (by first | assumption | (rw [mj_rown (by omega)]; assumption)) rfl rfl rfl (fun _ => rfl) (fun _ => rfl) ?_
  refine mj_aload_n (i := 0) (q := 27) dX5_init_26 rfl rfl rfl ?_
  refine mj_newB (ci := 3) (mc := 47) (ms := 552) (q := 30) dX5_init_27 (by decide) cl_X5_7 in_X1 rfl rfl rfl ?_
  refine mj_dup (q := 31) rfl dX5_init_30 rfl ?_
  refine mj_kI0v (K := m_X1_init) (q := 34) (mc1 := 46) (ms1 := 500) (mc := 1) (ms := 52) dX5_init_31 ln_X5_9 ok_X1_init (Nat.le_of_ble_eq_true rfl) (by decide) rfl rfl rfl (s_X1_init (m := x + 95) mj_rows mj_rows) (fun h1 hq => ?_)
  obtain ⟨K3, f3, g3, rfl, hO3, q31, q32, q33, q34, q35, q36⟩ := hq
  have k3 : K3 x = (2, 7, 0) := by rw [(hO3 x (by omega)).1, mj_rown (by omega)]; exact k2
  refine mj_putr (x := 0) (q := 37) dX5_init_34 fl_X5_19 rfl rfl (by first | assumption | (rw [mj_rown (by omega)]; assumption)) rfl rfl rfl (fun _ => rfl) (fun _ => rfl) ?_
  refine mj_aload_n (i := 0) (q := 38) dX5_init_37 rfl rfl rfl ?_
  refine mj_newB (ci := 6) (mc := 0) (ms := 47) (q := 41) dX5_init_38 (by decide) cl_X5_22 in_X4 rfl rfl rfl ?_
  refine mj_dup (q := 42) rfl dX5_init_41 rfl ?_
  refine mj_kIN0v (K := m_X4_init) (q := 45) (mc1 := 0) (ms1 := 0) (mc := 0) (ms := 47) dX5_init_42 (fun _ z => mj_XW.nm_X5_24 z) ok_X4_init (Nat.le_of_ble_eq_true rfl) (by decide) rfl rfl rfl (s_X4_init) (fun h1 hq => ?_)
  subst hq
  have k4 : mj_row K3 (x + 142) (2, 6, 0) x = (2, 7, 0) := (mj_rown (by omega)).trans k3
  refine mj_putr (x := 0) (q := 48) dX5_init_45 fl_X5_25 rfl rfl (by first | assumption | (rw [mj_rown (by omega)]; assumption)) rfl rfl rfl (fun _ => rfl) (fun _ => rfl) ?_
  refine mj_return dX5_init_48 rfl ⟨rfl, _, _, _, rfl, ?_, ?_⟩
  · intro a ha
    have h1 := hO1 a (by omega)
    have h2 := hO2 a (by omega)
    have h3 := hO3 a (by omega)
    simp only [mj_rown (show a ≠ x + 1 by omega), mj_rown (show a ≠ x + 48 by omega), mj_rown (show a ≠ x + 95 by omega), mj_rown (show a ≠ x + 142 by omega), mj_upr (show a ≠ x by omega)] at h1 h2 h3 ⊢
    exact ⟨h3.1.trans (h2.1.trans h1.1), h3.2.1.trans (h2.2.1.trans h1.2.1), h3.2.2.trans (h2.2.2.trans h1.2.2)⟩
  · have c2 : ∀ a, x < a → a < x + 48 → K3 a = K1 a ∧ f3 a = f1 a ∧ g3 a = g1 a := by
      intro a ha hb
      have h2 := hO2 a (by omega)
      have h3 := hO3 a (by omega)
      simp only [mj_rown (show a ≠ x + 48 by omega), mj_rown (show a ≠ x + 95 by omega), mj_upr (show a ≠ x by omega)] at h2 h3
      exact ⟨h3.1.trans h2.1, h3.2.1.trans h2.2.1, h3.2.2.trans h2.2.2⟩
    have hx3 := (hO3 x (by omega)).2.2
    have hx2 := (hO2 x (by omega)).2.2
    rw [mj_rown (by omega)] at hx3 hx2
    refine ⟨k4, ?_, ?_, ?_, ?_, ?_, ?_, ?_, ?_, mj_rows⟩
    · rw [mj_upn (Or.inr (by decide)), mj_rown (by omega), mj_upn (Or.inr (by decide)), hx3, mj_upn (Or.inr (by decide)), hx2, mj_ups]
    · simp [mj_up]
    · rw [mj_rown (by omega), (c2 (x + 1) (by omega) (by omega)).1]; exact q11
    · rw [mj_upr (by omega), mj_rown (by omega), mj_upr (by omega), (c2 (x + 1) (by omega) (by omega)).2.2]; exact q12
    · rw [mj_rown (by omega), (c2 (x + 2) (by omega) (by omega)).1]; exact q13
    · rw [mj_upr (by omega), mj_rown (by omega), mj_upr (by omega), (c2 (x + 2) (by omega) (by omega)).2.2]; exact q14
    · rw [mj_rown (by omega), (c2 (x + 3) (by omega) (by omega)).1]; exact q15
    · rw [mj_rown (by omega), (c2 (x + 1) (by omega) (by omega)).2.1]; exact q16
