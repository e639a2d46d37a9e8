/-! CONSTRUCTORS, third part: the Pistekeeper itself -/
def mjc_P : Nat := 1 + ((1 + mjc_A 4) + (1 + ((1 + mjc_A 4) + (1 + ((1 + mjc_A 4) + (1 + (0 + 0)))))))
def mjs_P : Nat := 16 + ((4 + mjs_A 4) + (16 + ((4 + mjs_A 4) + (16 + ((4 + mjs_A 4) + (5 + (0 + 0)))))))
theorem mjc_P_e : mjc_P = 142 := rfl

set_option maxHeartbeats 4000000 in
set_option maxRecDepth 100000 in
theorem s_X5_init {d x : Nat} {K : Nat → mj_K} {f : Nat → Nat → Int32} {g : Nat → Nat → Option Nat} (hK : K x = (2, 5, 0)) : mj_C m_X5_init (d + 4) mjc_P mjs_P [.ref x] (x + 1, K, f, g) (fun v h1 => v = none ∧ ∃ K1 f1 g1, h1 = (x + 143, K1, f1, g1) ∧ mj_old x K K1 f f1 g g1 ∧ LPn K1 g1 x (x + 1) ∧ MN0 f1 (x + 1)) := by
  refine mj_entry (by refine ⟨by decide +kernel, by decide, rfl, Nat.le_of_ble_eq_true rfl⟩) ?_
  show mj_W _ _ (1 + ((1 + mjc_A 4) + (1 + ((1 + mjc_A 4) + (1 + ((1 + mjc_A 4) + (1 + (0 + 0)))))))) (16 + ((4 + mjs_A 4) + (16 + ((4 + mjs_A 4) + (16 + ((4 + mjs_A 4) + (5 + (0 + 0)))))))) _ 0 [.ref x] [] _
  refine mj_aload_n (i := 0) (q := 1) dX5_init_0 rfl rfl rfl ?_
  refine mj_objInit (q := 4) dX5_init_1 ln_X5_1 (Nat.le_of_ble_eq_true rfl) rfl ?_
  refine mj_aload_n (i := 0) (q := 5) dX5_init_4 rfl rfl rfl ?_
  refine mj_new (ci := 1) (q := 8) dX5_init_5 (by decide) cl_X5_7 in_X1 rfl ?_
  refine mj_dup (q := 9) rfl dX5_init_8 rfl ?_
  refine mj_cI0m (K := m_X1_init) (q := 12) dX5_init_9 ln_X5_9 ok_X1_init (Nat.le_of_ble_eq_true rfl) (by decide) rfl (s_X1_init (m := x + 1) mj_rowe mj_rowe) (fun h1 hq => ?_)
  obtain ⟨K0, f0, g0, rfl, hO0, hL0, hM0⟩ := hq
  have k0 : K0 x = (2, 5, 0) := by rw [(hO0 x (by omega)).1, mj_rown (by omega)]; exact hK
  refine mj_putr (q := 15) dX5_init_12 fl_X5_10 rfl rfl k0 rfl rfl rfl (fun _ => rfl) (fun _ => rfl) ?_
  refine mj_aload_n (i := 0) (q := 16) dX5_init_15 rfl rfl rfl ?_
  refine mj_new (ci := 1) (q := 19) dX5_init_16 (by decide) cl_X5_7 in_X1 rfl ?_
  refine mj_dup (q := 20) rfl dX5_init_19 rfl ?_
  refine mj_cI0m (K := m_X1_init) (q := 23) dX5_init_20 ln_X5_9 ok_X1_init (Nat.le_of_ble_eq_true rfl) (by decide) rfl (s_X1_init (m := x + 1 + 47) mj_rowe mj_rowe) (fun h1 hq => ?_)
  obtain ⟨K1, f1, g1, rfl, hO1, hL1, hM1⟩ := hq
  have k1 : K1 x = (2, 5, 0) := by rw [(hO1 x (by omega)).1, mj_rown (by omega)]; exact k0
  refine mj_putr (q := 26) dX5_init_23 fl_X5_16 rfl rfl k1 rfl rfl rfl (fun _ => rfl) (fun _ => rfl) ?_
  refine mj_aload_n (i := 0) (q := 27) dX5_init_26 rfl rfl rfl ?_
  refine mj_new (ci := 1) (q := 30) dX5_init_27 (by decide) cl_X5_7 in_X1 rfl ?_
  refine mj_dup (q := 31) rfl dX5_init_30 rfl ?_
  refine mj_cI0m (K := m_X1_init) (q := 34) dX5_init_31 ln_X5_9 ok_X1_init (Nat.le_of_ble_eq_true rfl) (by decide) rfl (s_X1_init (m := x + 1 + 47 + 47) mj_rowe mj_rowe) (fun h1 hq => ?_)
  obtain ⟨K2, f2, g2, rfl, hO2, hL2, hM2⟩ := hq
  have k2 : K2 x = (2, 5, 0) := by rw [(hO2 x (by omega)).1, mj_rown (by omega)]; exact k1
  refine mj_putr (q := 37) dX5_init_34 fl_X5_19 rfl rfl k2 rfl rfl rfl (fun _ => rfl) (fun _ => rfl) ?_
  refine mj_aload_n (i := 0) (q := 38) dX5_init_37 rfl rfl rfl ?_
  refine mj_new (ci := 4) (q := 41) dX5_init_38 (by decide) cl_X5_22 in_X4 rfl ?_
  refine mj_dup (q := 42) rfl dX5_init_41 rfl ?_
  refine mj_cIN0m (K := m_X4_init) (q := 45) dX5_init_42 (fun _ z => z.2.1) ok_X4_init (Nat.le_of_ble_eq_true rfl) (by decide) rfl s_X4_init (fun h1 hq => ?_)
  subst hq
  have k3 : mj_row K2 (x + 1 + 47 + 47 + 47) (2, 4, 0) x = (2, 5, 0) := (mj_rown (by omega)).trans k2
  refine mj_putr (q := 48) dX5_init_45 fl_X5_25 rfl rfl k3 rfl rfl rfl (fun _ => rfl) (fun _ => rfl) ?_
  have o3 : ∀ a, x < a → a < x + 1 + 47 + 47 + 47 → mj_row K2 (x + 1 + 47 + 47 + 47) (2, 4, 0) a = K2 a ∧ mj_row f2 (x + 1 + 47 + 47 + 47) (fun _ => 0) a = f2 a ∧ mj_up (mj_row (mj_up g2 x 2 (some (x + 1 + 47 + 47))) (x + 1 + 47 + 47 + 47) (fun _ => none)) x 3 (some (x + 1 + 47 + 47 + 47)) a = g2 a := fun a h1 h2 => ⟨mj_rown (by omega), mj_rown (by omega), (mj_upr (by omega)).trans ((mj_rown (by omega)).trans (mj_upr (by omega)))⟩
  have o2 : ∀ a, x < a → a < x + 1 + 47 + 47 → K2 a = K1 a ∧ f2 a = f1 a ∧ g2 a = g1 a := fun a h1 h2 => ⟨(hO2 a (by omega)).1.trans (mj_rown (by omega)), (hO2 a (by omega)).2.1.trans (mj_rown (by omega)), (hO2 a (by omega)).2.2.trans ((mj_rown (by omega)).trans (mj_upr (by omega)))⟩
  have o1 : ∀ a, x < a → a < x + 1 + 47 → K1 a = K0 a ∧ f1 a = f0 a ∧ g1 a = g0 a := fun a h1 h2 => ⟨(hO1 a (by omega)).1.trans (mj_rown (by omega)), (hO1 a (by omega)).2.1.trans (mj_rown (by omega)), (hO1 a (by omega)).2.2.trans ((mj_rown (by omega)).trans (mj_upr (by omega)))⟩
  have e2 : g2 x = mj_up g1 x 1 (some (x + 1 + 47)) x := (hO2 x (by omega)).2.2.trans (mj_rown (by omega))
  have e1 : g1 x = mj_up g0 x 0 (some (x + 1)) x := (hO1 x (by omega)).2.2.trans (mj_rown (by omega))
  refine mj_return dX5_init_48 rfl ⟨rfl, _, _, _, rfl, ?_, ⟨k3, by omega, ?_, ?_, ?_, ?_, hL0.eq (fun a h1 h2 => ?_), hL1.eq (fun a h1 h2 => ?_), hL2.eq (fun a h1 h2 => ?_), mj_rowe⟩, hM0.eq (fun a h1 h2 => ?_)⟩
  · intro a ha
    exact ⟨(mj_rown (by omega)).trans ((hO2 a (by omega)).1.trans ((mj_rown (by omega)).trans ((hO1 a (by omega)).1.trans ((mj_rown (by omega)).trans ((hO0 a (by omega)).1.trans (mj_rown (by omega))))))), (mj_rown (by omega)).trans ((hO2 a (by omega)).2.1.trans ((mj_rown (by omega)).trans ((hO1 a (by omega)).2.1.trans ((mj_rown (by omega)).trans ((hO0 a (by omega)).2.1.trans (mj_rown (by omega))))))), (mj_upr (by omega)).trans ((mj_rown (by omega)).trans ((mj_upr (by omega)).trans ((hO2 a (by omega)).2.2.trans ((mj_rown (by omega)).trans ((mj_upr (by omega)).trans ((hO1 a (by omega)).2.2.trans ((mj_rown (by omega)).trans ((mj_upr (by omega)).trans ((hO0 a (by omega)).2.2.trans (mj_rown (by omega)))))))))))⟩
  · simp [mj_up, mj_row, show ¬ x = x + 1 + 47 + 47 + 47 from by omega, e2, e1]
  · simp [mj_up, mj_row, show ¬ x = x + 1 + 47 + 47 + 47 from by omega, e2]
  · simp [mj_up, mj_row, show ¬ x = x + 1 + 47 + 47 + 47 from by omega]
  · simp [mj_up]
  · exact ⟨(o3 a (by omega) (by omega)).1.trans ((o2 a (by omega) (by omega)).1.trans (o1 a (by omega) (by omega)).1), (o3 a (by omega) (by omega)).2.2.trans ((o2 a (by omega) (by omega)).2.2.trans (o1 a (by omega) (by omega)).2.2)⟩
  · exact ⟨(o3 a (by omega) (by omega)).1.trans (o2 a (by omega) (by omega)).1, (o3 a (by omega) (by omega)).2.2.trans (o2 a (by omega) (by omega)).2.2⟩
  · exact ⟨(o3 a (by omega) (by omega)).1, (o3 a (by omega) (by omega)).2.2⟩
  · exact (o3 a (by omega) (by omega)).2.1.trans ((o2 a (by omega) (by omega)).2.1.trans (o1 a (by omega) (by omega)).2.1)
