/-! THE CLASS on a fresh object: its calls -/
set_option maxHeartbeats 100000 in
set_option maxRecDepth 100000 in
theorem s_requireClosed {d n : Nat} {v : Int32} {K : Nat → mj_K} {f : Nat → Nat → Int32} {g : Nat → Nat → Option Nat} (k1 : K 2 = (2, 7, 0)) (g1 : g 2 0 = some 3) (k2 : K 3 = (2, 3, 0)) (f2 : f 3 = v0M) : mj_Rx m_X5_requireClosed (d + 7) 1 6 [.ref 2, .int v] (n, K, f, g) (fun n1 h1 => n1 = 1 ∧ h1 = (n, K, f, g)) := by
  refine mj_entry (by refine ⟨by decide +kernel, by decide, rfl, Nat.le_of_ble_eq_true rfl⟩) ?_
  show mj_W _ _ _ _ _ 0 [.ref 2, .int v] [] _
  refine mj_aload_n (i := 0) (q := 1) dX5_requireClosed_0 rfl rfl rfl ?_
  refine mj_iload_n (i := 1) (q := 2) dX5_requireClosed_1 rfl rfl rfl ?_
  refine mj_kV1x (K := m_X5_requireRun) (mc1 := 1) (ms1 := 6) (mc := 0) (ms := 0) dX5_requireClosed_2 ln_X5_98 ok_X5_requireRun (Nat.le_of_ble_eq_true rfl) (by decide) (mj_rc2 (x := 0) (ci := 7) (by first | assumption | simp [mj_up, mj_upl, mj_row, *]) rfl) rfl rfl (s_requireRun k1 g1 k2 f2) (fun n1 h1 hq => ?_)
  obtain ⟨rfl, rfl⟩ := hq
  exact mj_T_out rfl ⟨rfl, rfl⟩
set_option maxHeartbeats 100000 in
set_option maxRecDepth 100000 in
theorem x_run {d n : Nat} {v1 v2 v3 v4 v5 : Int32} {K : Nat → mj_K} {f : Nat → Nat → Int32} {g : Nat → Nat → Option Nat} (k1 : K 2 = (2, 7, 0)) (g1 : g 2 0 = some 3) (k2 : K 3 = (2, 3, 0)) (f2 : f 3 = v0M) : mj_Rx m_X5_run (d + 7) 1 6 [.ref 2, .int v1, .int v2, .int v3, .int v4, .int v5] (n, K, f, g) (fun n1 h1 => n1 = 1 ∧ h1 = (n, K, f, g)) := by
  refine mj_entry (by refine ⟨by decide +kernel, by decide, rfl, Nat.le_of_ble_eq_true rfl⟩) ?_
  show mj_W _ _ _ _ _ 0 [.ref 2, .int v1, .int v2, .int v3, .int v4, .int v5, .null, .null] [] _
  refine mj_aload_n (i := 0) (q := 1) dX5_run_0 rfl rfl rfl ?_
  refine mj_iload_n (i := 1) (q := 2) dX5_run_1 rfl rfl rfl ?_
  refine mj_kV1x (K := m_X5_requireLift) (mc1 := 1) (ms1 := 6) (mc := 0) (ms := 0) dX5_run_2 ln_X5_56 ok_X5_requireLift (Nat.le_of_ble_eq_true rfl) (by decide) (mj_rc2 (x := 0) (ci := 7) (by first | assumption | simp [mj_up, mj_upl, mj_row, *]) rfl) rfl rfl (s_requireLift k1 g1 k2 f2) (fun n1 h1 hq => ?_)
  obtain ⟨rfl, rfl⟩ := hq
  exact mj_T_out rfl ⟨rfl, rfl⟩
set_option maxHeartbeats 100000 in
set_option maxRecDepth 100000 in
theorem x_turn {d n : Nat} {v1 v2 : Int32} {K : Nat → mj_K} {f : Nat → Nat → Int32} {g : Nat → Nat → Option Nat} (k1 : K 2 = (2, 7, 0)) (g1 : g 2 0 = some 3) (k2 : K 3 = (2, 3, 0)) (f2 : f 3 = v0M) : mj_Rx m_X5_turn (d + 7) 1 6 [.ref 2, .int v1, .int v2] (n, K, f, g) (fun n1 h1 => n1 = 1 ∧ h1 = (n, K, f, g)) := by
  refine mj_entry (by refine ⟨by decide +kernel, by decide, rfl, Nat.le_of_ble_eq_true rfl⟩) ?_
  show mj_W _ _ _ _ _ 0 [.ref 2, .int v1, .int v2, .null] [] _
  refine mj_aload_n (i := 0) (q := 1) dX5_turn_0 rfl rfl rfl ?_
  refine mj_iload_n (i := 1) (q := 2) dX5_turn_1 rfl rfl rfl ?_
  refine mj_kV1x (K := m_X5_requireLift) (mc1 := 1) (ms1 := 6) (mc := 0) (ms := 0) dX5_turn_2 ln_X5_56 ok_X5_requireLift (Nat.le_of_ble_eq_true rfl) (by decide) (mj_rc2 (x := 0) (ci := 7) (by first | assumption | simp [mj_up, mj_upl, mj_row, *]) rfl) rfl rfl (s_requireLift k1 g1 k2 f2) (fun n1 h1 hq => ?_)
  obtain ⟨rfl, rfl⟩ := hq
  exact mj_T_out rfl ⟨rfl, rfl⟩
set_option maxHeartbeats 100000 in
set_option maxRecDepth 100000 in
theorem x_release {d n : Nat} {v1 : Int32} {K : Nat → mj_K} {f : Nat → Nat → Int32} {g : Nat → Nat → Option Nat} (k1 : K 2 = (2, 7, 0)) (g1 : g 2 0 = some 3) (k2 : K 3 = (2, 3, 0)) (f2 : f 3 = v0M) : mj_Rx m_X5_release (d + 7) 1 6 [.ref 2, .int v1] (n, K, f, g) (fun n1 h1 => n1 = 1 ∧ h1 = (n, K, f, g)) := by
  refine mj_entry (by refine ⟨by decide +kernel, by decide, rfl, Nat.le_of_ble_eq_true rfl⟩) ?_
  show mj_W _ _ _ _ _ 0 [.ref 2, .int v1, .null, .null] [] _
  refine mj_aload_n (i := 0) (q := 1) dX5_release_0 rfl rfl rfl ?_
  refine mj_iload_n (i := 1) (q := 2) dX5_release_1 rfl rfl rfl ?_
  refine mj_kV1x (K := m_X5_requireLift) (mc1 := 1) (ms1 := 6) (mc := 0) (ms := 0) dX5_release_2 ln_X5_56 ok_X5_requireLift (Nat.le_of_ble_eq_true rfl) (by decide) (mj_rc2 (x := 0) (ci := 7) (by first | assumption | simp [mj_up, mj_upl, mj_row, *]) rfl) rfl rfl (s_requireLift k1 g1 k2 f2) (fun n1 h1 hq => ?_)
  obtain ⟨rfl, rfl⟩ := hq
  exact mj_T_out rfl ⟨rfl, rfl⟩
set_option maxHeartbeats 100000 in
set_option maxRecDepth 100000 in
theorem x_guns {d n : Nat} {v1 v2 : Int32} {K : Nat → mj_K} {f : Nat → Nat → Int32} {g : Nat → Nat → Option Nat} (k1 : K 2 = (2, 7, 0)) (g1 : g 2 0 = some 3) (k2 : K 3 = (2, 3, 0)) (f2 : f 3 = v0M) : mj_Rx m_X5_guns (d + 7) 1 6 [.ref 2, .int v1, .int v2] (n, K, f, g) (fun n1 h1 => n1 = 1 ∧ h1 = (n, K, f, g)) := by
  refine mj_entry (by refine ⟨by decide +kernel, by decide, rfl, Nat.le_of_ble_eq_true rfl⟩) ?_
  show mj_W _ _ _ _ _ 0 [.ref 2, .int v1, .int v2, .null] [] _
  refine mj_aload_n (i := 0) (q := 1) dX5_guns_0 rfl rfl rfl ?_
  refine mj_iload_n (i := 1) (q := 2) dX5_guns_1 rfl rfl rfl ?_
  refine mj_kV1x (K := m_X5_requireRun) (mc1 := 1) (ms1 := 6) (mc := 0) (ms := 0) dX5_guns_2 ln_X5_98 ok_X5_requireRun (Nat.le_of_ble_eq_true rfl) (by decide) (mj_rc2 (x := 0) (ci := 7) (by first | assumption | simp [mj_up, mj_upl, mj_row, *]) rfl) rfl rfl (s_requireRun k1 g1 k2 f2) (fun n1 h1 hq => ?_)
  obtain ⟨rfl, rfl⟩ := hq
  exact mj_T_out rfl ⟨rfl, rfl⟩
set_option maxHeartbeats 100000 in
set_option maxRecDepth 100000 in
theorem x_blast {d n : Nat} {v1 : Int32} {K : Nat → mj_K} {f : Nat → Nat → Int32} {g : Nat → Nat → Option Nat} (k1 : K 2 = (2, 7, 0)) (g1 : g 2 0 = some 3) (k2 : K 3 = (2, 3, 0)) (f2 : f 3 = v0M) : mj_Rx m_X5_blast (d + 8) 1 6 [.ref 2, .int v1] (n, K, f, g) (fun n1 h1 => n1 = 1 ∧ h1 = (n, K, f, g)) := by
  refine mj_entry (by refine ⟨by decide +kernel, by decide, rfl, Nat.le_of_ble_eq_true rfl⟩) ?_
  show mj_W _ _ _ _ _ 0 [.ref 2, .int v1, .null] [] _
  refine mj_aload_n (i := 0) (q := 1) dX5_blast_0 rfl rfl rfl ?_
  refine mj_iload_n (i := 1) (q := 2) dX5_blast_1 rfl rfl rfl ?_
  refine mj_kV1x (K := m_X5_requireClosed) (mc1 := 1) (ms1 := 6) (mc := 0) (ms := 0) dX5_blast_2 ln_X5_132 ok_X5_requireClosed (Nat.le_of_ble_eq_true rfl) (by decide) (mj_rc2 (x := 0) (ci := 7) (by first | assumption | simp [mj_up, mj_upl, mj_row, *]) rfl) rfl rfl (s_requireClosed k1 g1 k2 f2) (fun n1 h1 hq => ?_)
  obtain ⟨rfl, rfl⟩ := hq
  exact mj_T_out rfl ⟨rfl, rfl⟩
set_option maxHeartbeats 100000 in
set_option maxRecDepth 100000 in
theorem x_search {d n : Nat} {v1 : Int32} {K : Nat → mj_K} {f : Nat → Nat → Int32} {g : Nat → Nat → Option Nat} (k1 : K 2 = (2, 7, 0)) (g1 : g 2 0 = some 3) (k2 : K 3 = (2, 3, 0)) (f2 : f 3 = v0M) : mj_Rx m_X5_search (d + 7) 1 6 [.ref 2, .int v1] (n, K, f, g) (fun n1 h1 => n1 = 1 ∧ h1 = (n, K, f, g)) := by
  refine mj_entry (by refine ⟨by decide +kernel, by decide, rfl, Nat.le_of_ble_eq_true rfl⟩) ?_
  show mj_W _ _ _ _ _ 0 [.ref 2, .int v1, .null] [] _
  refine mj_aload_n (i := 0) (q := 1) dX5_search_0 rfl rfl rfl ?_
  refine mj_iload_n (i := 1) (q := 2) dX5_search_1 rfl rfl rfl ?_
  refine mj_kV1x (K := m_X5_requireRun) (mc1 := 1) (ms1 := 6) (mc := 0) (ms := 0) dX5_search_2 ln_X5_98 ok_X5_requireRun (Nat.le_of_ble_eq_true rfl) (by decide) (mj_rc2 (x := 0) (ci := 7) (by first | assumption | simp [mj_up, mj_upl, mj_row, *]) rfl) rfl rfl (s_requireRun k1 g1 k2 f2) (fun n1 h1 hq => ?_)
  obtain ⟨rfl, rfl⟩ := hq
  exact mj_T_out rfl ⟨rfl, rfl⟩
set_option maxHeartbeats 100000 in
set_option maxRecDepth 100000 in
theorem x_test {d n : Nat} {v1 : Int32} {K : Nat → mj_K} {f : Nat → Nat → Int32} {g : Nat → Nat → Option Nat} (k1 : K 2 = (2, 7, 0)) (g1 : g 2 0 = some 3) (k2 : K 3 = (2, 3, 0)) (f2 : f 3 = v0M) : mj_Rx m_X5_test (d + 7) 1 6 [.ref 2, .int v1] (n, K, f, g) (fun n1 h1 => n1 = 1 ∧ h1 = (n, K, f, g)) := by
  refine mj_entry (by refine ⟨by decide +kernel, by decide, rfl, Nat.le_of_ble_eq_true rfl⟩) ?_
  show mj_W _ _ _ _ _ 0 [.ref 2, .int v1, .null] [] _
  refine mj_aload_n (i := 0) (q := 1) dX5_test_0 rfl rfl rfl ?_
  refine mj_iload_n (i := 1) (q := 2) dX5_test_1 rfl rfl rfl ?_
  refine mj_kV1x (K := m_X5_requireRun) (mc1 := 1) (ms1 := 6) (mc := 0) (ms := 0) dX5_test_2 ln_X5_98 ok_X5_requireRun (Nat.le_of_ble_eq_true rfl) (by decide) (mj_rc2 (x := 0) (ci := 7) (by first | assumption | simp [mj_up, mj_upl, mj_row, *]) rfl) rfl rfl (s_requireRun k1 g1 k2 f2) (fun n1 h1 hq => ?_)
  obtain ⟨rfl, rfl⟩ := hq
  exact mj_T_out rfl ⟨rfl, rfl⟩
set_option maxHeartbeats 100000 in
set_option maxRecDepth 100000 in
theorem x_sweep {d n : Nat} {v1 : Int32} {K : Nat → mj_K} {f : Nat → Nat → Int32} {g : Nat → Nat → Option Nat} (k1 : K 2 = (2, 7, 0)) (g1 : g 2 0 = some 3) (k2 : K 3 = (2, 3, 0)) (f2 : f 3 = v0M) : mj_Rx m_X5_sweep (d + 8) 1 6 [.ref 2, .int v1] (n, K, f, g) (fun n1 h1 => n1 = 1 ∧ h1 = (n, K, f, g)) := by
  refine mj_entry (by refine ⟨by decide +kernel, by decide, rfl, Nat.le_of_ble_eq_true rfl⟩) ?_
  show mj_W _ _ _ _ _ 0 [.ref 2, .int v1, .null] [] _
  refine mj_aload_n (i := 0) (q := 1) dX5_sweep_0 rfl rfl rfl ?_
  refine mj_iload_n (i := 1) (q := 2) dX5_sweep_1 rfl rfl rfl ?_
  refine mj_kV1x (K := m_X5_requireClosed) (mc1 := 1) (ms1 := 6) (mc := 0) (ms := 0) dX5_sweep_2 ln_X5_132 ok_X5_requireClosed (Nat.le_of_ble_eq_true rfl) (by decide) (mj_rc2 (x := 0) (ci := 7) (by first | assumption | simp [mj_up, mj_upl, mj_row, *]) rfl) rfl rfl (s_requireClosed k1 g1 k2 f2) (fun n1 h1 hq => ?_)
  obtain ⟨rfl, rfl⟩ := hq
  exact mj_T_out rfl ⟨rfl, rfl⟩
set_option maxHeartbeats 100000 in
set_option maxRecDepth 100000 in
theorem x_winch {d n : Nat} {v1 v2 : Int32} {K : Nat → mj_K} {f : Nat → Nat → Int32} {g : Nat → Nat → Option Nat} (k1 : K 2 = (2, 7, 0)) (g1 : g 2 0 = some 3) (k2 : K 3 = (2, 3, 0)) (f2 : f 3 = v0M) : mj_Rx m_X5_winch (d + 8) 1 6 [.ref 2, .int v1, .int v2] (n, K, f, g) (fun n1 h1 => n1 = 1 ∧ h1 = (n, K, f, g)) := by
  refine mj_entry (by refine ⟨by decide +kernel, by decide, rfl, Nat.le_of_ble_eq_true rfl⟩) ?_
  show mj_W _ _ _ _ _ 0 [.ref 2, .int v1, .int v2, .null] [] _
  refine mj_aload_n (i := 0) (q := 1) dX5_winch_0 rfl rfl rfl ?_
  refine mj_iload_n (i := 1) (q := 2) dX5_winch_1 rfl rfl rfl ?_
  refine mj_kV1x (K := m_X5_requireClosed) (mc1 := 1) (ms1 := 6) (mc := 0) (ms := 0) dX5_winch_2 ln_X5_132 ok_X5_requireClosed (Nat.le_of_ble_eq_true rfl) (by decide) (mj_rc2 (x := 0) (ci := 7) (by first | assumption | simp [mj_up, mj_upl, mj_row, *]) rfl) rfl rfl (s_requireClosed k1 g1 k2 f2) (fun n1 h1 hq => ?_)
  obtain ⟨rfl, rfl⟩ := hq
  exact mj_T_out rfl ⟨rfl, rfl⟩
set_option maxHeartbeats 100000 in
set_option maxRecDepth 100000 in
theorem x_groom {d n : Nat} {v1 : Int32} {K : Nat → mj_K} {f : Nat → Nat → Int32} {g : Nat → Nat → Option Nat} (k1 : K 2 = (2, 7, 0)) (g1 : g 2 0 = some 3) (k2 : K 3 = (2, 3, 0)) (f2 : f 3 = v0M) : mj_Rx m_X5_groom (d + 8) 1 6 [.ref 2, .int v1] (n, K, f, g) (fun n1 h1 => n1 = 1 ∧ h1 = (n, K, f, g)) := by
  refine mj_entry (by refine ⟨by decide +kernel, by decide, rfl, Nat.le_of_ble_eq_true rfl⟩) ?_
  show mj_W _ _ _ _ _ 0 [.ref 2, .int v1, .null, .null] [] _
  refine mj_aload_n (i := 0) (q := 1) dX5_groom_0 rfl rfl rfl ?_
  refine mj_iload_n (i := 1) (q := 2) dX5_groom_1 rfl rfl rfl ?_
  refine mj_kV1x (K := m_X5_requireClosed) (mc1 := 1) (ms1 := 6) (mc := 0) (ms := 0) dX5_groom_2 ln_X5_132 ok_X5_requireClosed (Nat.le_of_ble_eq_true rfl) (by decide) (mj_rc2 (x := 0) (ci := 7) (by first | assumption | simp [mj_up, mj_upl, mj_row, *]) rfl) rfl rfl (s_requireClosed k1 g1 k2 f2) (fun n1 h1 hq => ?_)
  obtain ⟨rfl, rfl⟩ := hq
  exact mj_T_out rfl ⟨rfl, rfl⟩
set_option maxHeartbeats 100000 in
set_option maxRecDepth 100000 in
theorem x_open {d n : Nat} {v1 : Int32} {K : Nat → mj_K} {f : Nat → Nat → Int32} {g : Nat → Nat → Option Nat} (k1 : K 2 = (2, 7, 0)) (g1 : g 2 0 = some 3) (k2 : K 3 = (2, 3, 0)) (f2 : f 3 = v0M) : mj_Rx m_X5_open (d + 8) 1 6 [.ref 2, .int v1] (n, K, f, g) (fun n1 h1 => n1 = 1 ∧ h1 = (n, K, f, g)) := by
  refine mj_entry (by refine ⟨by decide +kernel, by decide, rfl, Nat.le_of_ble_eq_true rfl⟩) ?_
  show mj_W _ _ _ _ _ 0 [.ref 2, .int v1, .null, .null] [] _
  refine mj_aload_n (i := 0) (q := 1) dX5_open_0 rfl rfl rfl ?_
  refine mj_iload_n (i := 1) (q := 2) dX5_open_1 rfl rfl rfl ?_
  refine mj_kV1x (K := m_X5_requireClosed) (mc1 := 1) (ms1 := 6) (mc := 0) (ms := 0) dX5_open_2 ln_X5_132 ok_X5_requireClosed (Nat.le_of_ble_eq_true rfl) (by decide) (mj_rc2 (x := 0) (ci := 7) (by first | assumption | simp [mj_up, mj_upl, mj_row, *]) rfl) rfl rfl (s_requireClosed k1 g1 k2 f2) (fun n1 h1 hq => ?_)
  obtain ⟨rfl, rfl⟩ := hq
  exact mj_T_out rfl ⟨rfl, rfl⟩
set_option maxHeartbeats 100000 in
set_option maxRecDepth 100000 in
theorem x_close {d n : Nat} {v1 : Int32} {K : Nat → mj_K} {f : Nat → Nat → Int32} {g : Nat → Nat → Option Nat} (k1 : K 2 = (2, 7, 0)) (g1 : g 2 0 = some 3) (k2 : K 3 = (2, 3, 0)) (f2 : f 3 = v0M) : mj_Rx m_X5_close (d + 7) 1 6 [.ref 2, .int v1] (n, K, f, g) (fun n1 h1 => n1 = 1 ∧ h1 = (n, K, f, g)) := by
  refine mj_entry (by refine ⟨by decide +kernel, by decide, rfl, Nat.le_of_ble_eq_true rfl⟩) ?_
  show mj_W _ _ _ _ _ 0 [.ref 2, .int v1, .null] [] _
  refine mj_aload_n (i := 0) (q := 1) dX5_close_0 rfl rfl rfl ?_
  refine mj_iload_n (i := 1) (q := 2) dX5_close_1 rfl rfl rfl ?_
  refine mj_kV1x (K := m_X5_requireRun) (mc1 := 1) (ms1 := 6) (mc := 0) (ms := 0) dX5_close_2 ln_X5_98 ok_X5_requireRun (Nat.le_of_ble_eq_true rfl) (by decide) (mj_rc2 (x := 0) (ci := 7) (by first | assumption | simp [mj_up, mj_upl, mj_row, *]) rfl) rfl rfl (s_requireRun k1 g1 k2 f2) (fun n1 h1 hq => ?_)
  obtain ⟨rfl, rfl⟩ := hq
  exact mj_T_out rfl ⟨rfl, rfl⟩
set_option maxHeartbeats 100000 in
set_option maxRecDepth 100000 in
theorem x_ofRun {d n : Nat} {v1 v2 : Int32} {K : Nat → mj_K} {f : Nat → Nat → Int32} {g : Nat → Nat → Option Nat} (k1 : K 2 = (2, 7, 0)) (g1 : g 2 0 = some 3) (k2 : K 3 = (2, 3, 0)) (f2 : f 3 = v0M) : mj_Rx m_X5_ofRun (d + 7) 1 6 [.ref 2, .int v1, .int v2] (n, K, f, g) (fun n1 h1 => n1 = 1 ∧ h1 = (n, K, f, g)) := by
  refine mj_entry (by refine ⟨by decide +kernel, by decide, rfl, Nat.le_of_ble_eq_true rfl⟩) ?_
  show mj_W _ _ _ _ _ 0 [.ref 2, .int v1, .int v2, .null] [] _
  refine mj_aload_n (i := 0) (q := 1) dX5_ofRun_0 rfl rfl rfl ?_
  refine mj_iload_n (i := 1) (q := 2) dX5_ofRun_1 rfl rfl rfl ?_
  refine mj_kV1x (K := m_X5_requireRun) (mc1 := 1) (ms1 := 6) (mc := 0) (ms := 0) dX5_ofRun_2 ln_X5_98 ok_X5_requireRun (Nat.le_of_ble_eq_true rfl) (by decide) (mj_rc2 (x := 0) (ci := 7) (by first | assumption | simp [mj_up, mj_upl, mj_row, *]) rfl) rfl rfl (s_requireRun k1 g1 k2 f2) (fun n1 h1 hq => ?_)
  obtain ⟨rfl, rfl⟩ := hq
  exact mj_T_out rfl ⟨rfl, rfl⟩
set_option maxHeartbeats 100000 in
set_option maxRecDepth 100000 in
theorem x_ofLayer {d n : Nat} {v1 v2 v3 : Int32} {K : Nat → mj_K} {f : Nat → Nat → Int32} {g : Nat → Nat → Option Nat} (k1 : K 2 = (2, 7, 0)) (g1 : g 2 0 = some 3) (k2 : K 3 = (2, 3, 0)) (f2 : f 3 = v0M) : mj_Rx m_X5_ofLayer (d + 7) 1 6 [.ref 2, .int v1, .int v2, .int v3] (n, K, f, g) (fun n1 h1 => n1 = 1 ∧ h1 = (n, K, f, g)) := by
  refine mj_entry (by refine ⟨by decide +kernel, by decide, rfl, Nat.le_of_ble_eq_true rfl⟩) ?_
  show mj_W _ _ _ _ _ 0 [.ref 2, .int v1, .int v2, .int v3, .null] [] _
  refine mj_aload_n (i := 0) (q := 1) dX5_ofLayer_0 rfl rfl rfl ?_
  refine mj_iload_n (i := 1) (q := 2) dX5_ofLayer_1 rfl rfl rfl ?_
  refine mj_kV1x (K := m_X5_requireRun) (mc1 := 1) (ms1 := 6) (mc := 0) (ms := 0) dX5_ofLayer_2 ln_X5_98 ok_X5_requireRun (Nat.le_of_ble_eq_true rfl) (by decide) (mj_rc2 (x := 0) (ci := 7) (by first | assumption | simp [mj_up, mj_upl, mj_row, *]) rfl) rfl rfl (s_requireRun k1 g1 k2 f2) (fun n1 h1 hq => ?_)
  obtain ⟨rfl, rfl⟩ := hq
  exact mj_T_out rfl ⟨rfl, rfl⟩
set_option maxHeartbeats 100000 in
set_option maxRecDepth 100000 in
theorem x_ofLift {d n : Nat} {v1 v2 : Int32} {K : Nat → mj_K} {f : Nat → Nat → Int32} {g : Nat → Nat → Option Nat} (k1 : K 2 = (2, 7, 0)) (g1 : g 2 0 = some 3) (k2 : K 3 = (2, 3, 0)) (f2 : f 3 = v0M) : mj_Rx m_X5_ofLift (d + 7) 1 6 [.ref 2, .int v1, .int v2] (n, K, f, g) (fun n1 h1 => n1 = 1 ∧ h1 = (n, K, f, g)) := by
  refine mj_entry (by refine ⟨by decide +kernel, by decide, rfl, Nat.le_of_ble_eq_true rfl⟩) ?_
  show mj_W _ _ _ _ _ 0 [.ref 2, .int v1, .int v2, .null] [] _
  refine mj_aload_n (i := 0) (q := 1) dX5_ofLift_0 rfl rfl rfl ?_
  refine mj_iload_n (i := 1) (q := 2) dX5_ofLift_1 rfl rfl rfl ?_
  refine mj_kV1x (K := m_X5_requireLift) (mc1 := 1) (ms1 := 6) (mc := 0) (ms := 0) dX5_ofLift_2 ln_X5_56 ok_X5_requireLift (Nat.le_of_ble_eq_true rfl) (by decide) (mj_rc2 (x := 0) (ci := 7) (by first | assumption | simp [mj_up, mj_upl, mj_row, *]) rfl) rfl rfl (s_requireLift k1 g1 k2 f2) (fun n1 h1 hq => ?_)
  obtain ⟨rfl, rfl⟩ := hq
  exact mj_T_out rfl ⟨rfl, rfl⟩
set_option maxHeartbeats 100000 in
set_option maxRecDepth 100000 in
theorem x_wouldRisk {d n : Nat} {v1 v2 v3 v4 : Int32} {K : Nat → mj_K} {f : Nat → Nat → Int32} {g : Nat → Nat → Option Nat} (k1 : K 2 = (2, 7, 0)) (g1 : g 2 0 = some 3) (k2 : K 3 = (2, 3, 0)) (f2 : f 3 = v0M) : mj_Rx m_X5_wouldRisk (d + 7) 1 6 [.ref 2, .int v1, .int v2, .int v3, .int v4] (n, K, f, g) (fun n1 h1 => n1 = 1 ∧ h1 = (n, K, f, g)) := by
  refine mj_entry (by refine ⟨by decide +kernel, by decide, rfl, Nat.le_of_ble_eq_true rfl⟩) ?_
  show mj_W _ _ _ _ _ 0 [.ref 2, .int v1, .int v2, .int v3, .int v4, .null, .null] [] _
  refine mj_aload_n (i := 0) (q := 1) dX5_wouldRisk_0 rfl rfl rfl ?_
  refine mj_iload_n (i := 1) (q := 2) dX5_wouldRisk_1 rfl rfl rfl ?_
  refine mj_kV1x (K := m_X5_requireRun) (mc1 := 1) (ms1 := 6) (mc := 0) (ms := 0) dX5_wouldRisk_2 ln_X5_98 ok_X5_requireRun (Nat.le_of_ble_eq_true rfl) (by decide) (mj_rc2 (x := 0) (ci := 7) (by first | assumption | simp [mj_up, mj_upl, mj_row, *]) rfl) rfl rfl (s_requireRun k1 g1 k2 f2) (fun n1 h1 hq => ?_)
  obtain ⟨rfl, rfl⟩ := hq
  exact mj_T_out rfl ⟨rfl, rfl⟩
set_option maxHeartbeats 100000 in
set_option maxRecDepth 100000 in
theorem x_wouldMake {d n : Nat} {v1 v2 v3 v4 : Int32} {K : Nat → mj_K} {f : Nat → Nat → Int32} {g : Nat → Nat → Option Nat} (k1 : K 2 = (2, 7, 0)) (g1 : g 2 0 = some 3) (k2 : K 3 = (2, 3, 0)) (f2 : f 3 = v0M) : mj_Rx m_X5_wouldMake (d + 7) 1 6 [.ref 2, .int v1, .int v2, .int v3, .int v4] (n, K, f, g) (fun n1 h1 => n1 = 1 ∧ h1 = (n, K, f, g)) := by
  refine mj_entry (by refine ⟨by decide +kernel, by decide, rfl, Nat.le_of_ble_eq_true rfl⟩) ?_
  show mj_W _ _ _ _ _ 0 [.ref 2, .int v1, .int v2, .int v3, .int v4, .null] [] _
  refine mj_aload_n (i := 0) (q := 1) dX5_wouldMake_0 rfl rfl rfl ?_
  refine mj_iload_n (i := 1) (q := 2) dX5_wouldMake_1 rfl rfl rfl ?_
  refine mj_kV1x (K := m_X5_requireRun) (mc1 := 1) (ms1 := 6) (mc := 0) (ms := 0) dX5_wouldMake_2 ln_X5_98 ok_X5_requireRun (Nat.le_of_ble_eq_true rfl) (by decide) (mj_rc2 (x := 0) (ci := 7) (by first | assumption | simp [mj_up, mj_upl, mj_row, *]) rfl) rfl rfl (s_requireRun k1 g1 k2 f2) (fun n1 h1 hq => ?_)
  obtain ⟨rfl, rfl⟩ := hq
  exact mj_T_out rfl ⟨rfl, rfl⟩
def v_fill (a : Int32) : Int32 := if 5000 < 500 + a then 5000 else 500 + a
set_option maxHeartbeats 100000 in
set_option maxRecDepth 100000 in
theorem s_fill {d n : Nat} {v1 : Int32} {K : Nat → mj_K} {f : Nat → Nat → Int32} {g : Nat → Nat → Option Nat} (k1 : K 2 = (2, 7, 0)) (g1 : g 2 0 = some 3) (k2 : K 3 = (2, 3, 0)) (f2 : f 3 = v0M) (h1 : ¬ v1 < 1) (h2 : v1 ≤ 5000) : mj_Ri m_X5_fill (d + 2) 0 0 [.ref 2, .int v1] (n, K, f, g) (fun r h1 => r = v_fill v1 ∧ ∃ f1, h1 = (n, K, f1, g) ∧ ∀ a, (144 < a ∨ a = 0) → f1 a = f a) := by
  refine mj_entry (by refine ⟨by decide +kernel, by decide, rfl, Nat.le_of_ble_eq_true rfl⟩) ?_
  show mj_W _ _ _ _ _ 0 [.ref 2, .int v1] [] _
  refine mj_iload_n (i := 1) (q := 1) dX5_fill_0 rfl rfl rfl ?_
  refine mj_num1 (v := 1) (q := 2) rfl dX5_fill_1 rfl ?_
  refine mj_num3 (v := 5000) (q := 5) (by decide) dX5_fill_2 rfl ?_
  refine mj_kS3v (K := m_X5_requireWithin) (q := 8) (mc1 := 0) (ms1 := 0) (mc := 0) (ms := 0) dX5_fill_5 ln_X5_29 ok_X5_requireWithin (Nat.le_of_ble_eq_true rfl) (by decide) rfl rfl rfl (s_within h1 h2) (fun h1 hq => ?_)
  subst hq
  refine mj_aload_n (i := 0) (q := 9) dX5_fill_8 rfl rfl rfl ?_
  refine mj_getr (x := 0) (q := 12) dX5_fill_9 fl_X5_10 rfl rfl (by first | assumption | simp [mj_up, mj_upl, mj_row, *]) (by first | assumption | simp [mj_up, mj_upl, mj_row, *]) ?_
  refine mj_aload_n (i := 0) (q := 13) dX5_fill_12 rfl rfl rfl ?_
  refine mj_getr (x := 0) (q := 16) dX5_fill_13 fl_X5_10 rfl rfl (by first | assumption | simp [mj_up, mj_upl, mj_row, *]) (by first | assumption | simp [mj_up, mj_upl, mj_row, *]) ?_
  refine mj_getfv (x := 0) (v := 500) (q := 19) dX5_fill_16 fl_X5_104 rfl rfl (by first | assumption | simp [mj_up, mj_upl, mj_row, *]) (by rw [f2]; rfl) ?_
  refine mj_iload_n (i := 1) (q := 20) dX5_fill_19 rfl rfl rfl ?_
  refine mj_iadd (q := 21) dX5_fill_20 rfl ?_
  refine mj_num3 (v := 5000) (q := 24) (by decide) dX5_fill_21 rfl ?_
  refine mj_mmin (q := 27) dX5_fill_24 ln_X5_107 (Nat.le_of_ble_eq_true rfl) rfl ?_
  refine mj_putf (x := 0) (q := 30) dX5_fill_27 fl_X5_104 rfl rfl (by first | assumption | simp [mj_up, mj_upl, mj_row, *]) rfl rfl rfl ?_
  refine mj_aload_n (i := 0) (q := 31) dX5_fill_30 rfl rfl rfl ?_
  refine mj_getr (x := 0) (q := 34) dX5_fill_31 fl_X5_10 rfl rfl (by first | assumption | simp [mj_up, mj_upl, mj_row, *]) (by first | assumption | simp [mj_up, mj_upl, mj_row, *]) ?_
  refine mj_getf (x := 0) (q := 37) dX5_fill_34 fl_X5_104 rfl rfl (by first | assumption | simp [mj_up, mj_upl, mj_row, *]) ?_
  exact mj_ireturn dX5_fill_37 ⟨_, rfl, rfl⟩ ⟨_, rfl, ⟨by rw [mj_ups]; rfl, _, rfl, (fun a ha => by (repeat rw [mj_upr (by omega)]))⟩⟩
set_option maxHeartbeats 100000 in
set_option maxRecDepth 100000 in
theorem s_crowd {d n : Nat} {v1 : Int32} {K : Nat → mj_K} {f : Nat → Nat → Int32} {g : Nat → Nat → Option Nat} (k1 : K 2 = (2, 7, 0)) (g1 : g 2 0 = some 3) (k2 : K 3 = (2, 3, 0)) (f2 : f 3 = v0M) (h1 : ¬ v1 < 0) (h2 : v1 ≤ 5000) : mj_Ri m_X5_crowd (d + 2) 0 0 [.ref 2, .int v1] (n, K, f, g) (fun r h1 => r = 0 ∧ ∃ f1, h1 = (n, K, f1, g) ∧ ∀ a, (144 < a ∨ a = 0) → f1 a = f a) := by
  refine mj_entry (by refine ⟨by decide +kernel, by decide, rfl, Nat.le_of_ble_eq_true rfl⟩) ?_
  show mj_W _ _ _ _ _ 0 [.ref 2, .int v1, .null] [] _
  refine mj_iload_n (i := 1) (q := 1) dX5_crowd_0 rfl rfl rfl ?_
  refine mj_num1 (v := 0) (q := 2) rfl dX5_crowd_1 rfl ?_
  refine mj_num3 (v := 5000) (q := 5) (by decide) dX5_crowd_2 rfl ?_
  refine mj_kS3v (K := m_X5_requireWithin) (q := 8) (mc1 := 0) (ms1 := 0) (mc := 0) (ms := 0) dX5_crowd_5 ln_X5_29 ok_X5_requireWithin (Nat.le_of_ble_eq_true rfl) (by decide) rfl rfl rfl (s_within h1 h2) (fun h1 hq => ?_)
  subst hq
  refine mj_aload_n (i := 0) (q := 9) dX5_crowd_8 rfl rfl rfl ?_
  refine mj_getr (x := 0) (q := 12) dX5_crowd_9 fl_X5_10 rfl rfl (by first | assumption | simp [mj_up, mj_upl, mj_row, *]) (by first | assumption | simp [mj_up, mj_upl, mj_row, *]) ?_
  refine mj_getfv (x := 0) (v := 0) (q := 15) dX5_crowd_12 fl_X5_113 rfl rfl (by first | assumption | simp [mj_up, mj_upl, mj_row, *]) (by rw [f2]; rfl) ?_
  refine mj_istore_n (i := 2) (q := 16) dX5_crowd_15 rfl rfl (by decide) rfl ?_
  dsimp only [List.set]
  refine mj_aload_n (i := 0) (q := 17) dX5_crowd_16 rfl rfl rfl ?_
  refine mj_getr (x := 0) (q := 20) dX5_crowd_17 fl_X5_10 rfl rfl (by first | assumption | simp [mj_up, mj_upl, mj_row, *]) (by first | assumption | simp [mj_up, mj_upl, mj_row, *]) ?_
  refine mj_iload_n (i := 1) (q := 21) dX5_crowd_20 rfl rfl rfl ?_
  refine mj_putf (x := 0) (q := 24) dX5_crowd_21 fl_X5_113 rfl rfl (by first | assumption | simp [mj_up, mj_upl, mj_row, *]) rfl rfl rfl ?_
  refine mj_iload_n (i := 2) (q := 25) dX5_crowd_24 rfl rfl rfl ?_
  exact mj_ireturn dX5_crowd_25 ⟨_, rfl, rfl⟩ ⟨_, rfl, ⟨rfl, _, rfl, (fun a ha => by (repeat rw [mj_upr (by omega)]))⟩⟩
set_option maxHeartbeats 100000 in
set_option maxRecDepth 100000 in
theorem x_fill {d : Nat} {v1 : Int32} {h : mj_H} (hx : v1 < 1 ∨ ¬ v1 ≤ 5000) : mj_Rx m_X5_fill (d + 7) 1 6 [.ref 2, .int v1] h (fun n1 h1 => n1 = 0 ∧ h1 = h) := by
  refine mj_entry (by refine ⟨by decide +kernel, by decide, rfl, Nat.le_of_ble_eq_true rfl⟩) ?_
  show mj_W _ _ _ _ _ 0 [.ref 2, .int v1] [] _
  refine mj_iload_n (i := 1) (q := 1) dX5_fill_0 rfl rfl rfl ?_
  refine mj_num1 (v := 1) (q := 2) rfl dX5_fill_1 rfl ?_
  refine mj_num3 (v := 5000) (q := 5) (by decide) dX5_fill_2 rfl ?_
  refine mj_kS3x (K := m_X5_requireWithin) (mc1 := 1) (ms1 := 6) (mc := 0) (ms := 0) dX5_fill_5 ln_X5_29 ok_X5_requireWithin (Nat.le_of_ble_eq_true rfl) (by decide) rfl rfl (s_within_x hx) (fun n1 h1 hq => ?_)
  obtain ⟨rfl, rfl⟩ := hq
  exact mj_T_out rfl ⟨rfl, rfl⟩
set_option maxHeartbeats 100000 in
set_option maxRecDepth 100000 in
theorem x_crowd {d : Nat} {v1 : Int32} {h : mj_H} (hx : v1 < 0 ∨ ¬ v1 ≤ 5000) : mj_Rx m_X5_crowd (d + 7) 1 6 [.ref 2, .int v1] h (fun n1 h1 => n1 = 0 ∧ h1 = h) := by
  refine mj_entry (by refine ⟨by decide +kernel, by decide, rfl, Nat.le_of_ble_eq_true rfl⟩) ?_
  show mj_W _ _ _ _ _ 0 [.ref 2, .int v1, .null] [] _
  refine mj_iload_n (i := 1) (q := 1) dX5_crowd_0 rfl rfl rfl ?_
  refine mj_num1 (v := 0) (q := 2) rfl dX5_crowd_1 rfl ?_
  refine mj_num3 (v := 5000) (q := 5) (by decide) dX5_crowd_2 rfl ?_
  refine mj_kS3x (K := m_X5_requireWithin) (mc1 := 1) (ms1 := 6) (mc := 0) (ms := 0) dX5_crowd_5 ln_X5_29 ok_X5_requireWithin (Nat.le_of_ble_eq_true rfl) (by decide) rfl rfl (s_within_x hx) (fun n1 h1 hq => ?_)
  obtain ⟨rfl, rfl⟩ := hq
  exact mj_T_out rfl ⟨rfl, rfl⟩
set_option maxHeartbeats 100000 in
set_option maxRecDepth 100000 in
theorem x_many {d : Nat} {v1 : Int32} {h : mj_H} (hx : v1 < 0 ∨ ¬ v1 ≤ 14) : mj_Rx m_X5_many (d + 7) 1 6 [.ref 2, .int v1] h (fun n1 h1 => n1 = 0 ∧ h1 = h) := by
  refine mj_entry (by refine ⟨by decide +kernel, by decide, rfl, Nat.le_of_ble_eq_true rfl⟩) ?_
  show mj_W _ _ _ _ _ 0 [.ref 2, .int v1] [] _
  refine mj_iload_n (i := 1) (q := 1) dX5_many_0 rfl rfl rfl ?_
  refine mj_num1 (v := 0) (q := 2) rfl dX5_many_1 rfl ?_
  refine mj_num2 (v := 14) (q := 4) (by decide) dX5_many_2 rfl ?_
  refine mj_kS3x (K := m_X5_requireWithin) (mc1 := 1) (ms1 := 6) (mc := 0) (ms := 0) dX5_many_4 ln_X5_29 ok_X5_requireWithin (Nat.le_of_ble_eq_true rfl) (by decide) rfl rfl (s_within_x hx) (fun n1 h1 hq => ?_)
  obtain ⟨rfl, rfl⟩ := hq
  exact mj_T_out rfl ⟨rfl, rfl⟩
set_option maxHeartbeats 100000 in
set_option maxRecDepth 100000 in
theorem s_lift {d n : Nat} {v1 v2 : Int32} {K : Nat → mj_K} {f : Nat → Nat → Int32} {g : Nat → Nat → Option Nat} (k1 : K 2 = (2, 7, 0)) (g1 : g 2 0 = some 3) (k2 : K 3 = (2, 3, 0)) (f2 : f 3 = v0M) (g2 : g 3 0 = some 4) (k3 : K 4 = (1, 4, 2)) (g3 : g 4 0 = some 5) (k4 : K 5 = (2, 2, 0)) (h1 : ¬ v1 < 10) (h2 : v1 ≤ 999) (h3 : ¬ v2 < 3) (h4 : v2 ≤ 9) : mj_Ri m_X5_lift (d + 2) 0 0 [.ref 2, .int v1, .int v2] (n, K, f, g) (fun r h1 => r = 0 ∧ ∃ f1, h1 = (n, K, f1, g) ∧ ∀ a, (144 < a ∨ a = 0) → f1 a = f a) := by
  refine mj_entry (by refine ⟨by decide +kernel, by decide, rfl, Nat.le_of_ble_eq_true rfl⟩) ?_
  show mj_W _ _ _ _ _ 0 [.ref 2, .int v1, .int v2, .null] [] _
  refine mj_iload_n (i := 1) (q := 1) dX5_lift_0 rfl rfl rfl ?_
  refine mj_num2 (v := 10) (q := 3) (by decide) dX5_lift_1 rfl ?_
  refine mj_num3 (v := 999) (q := 6) (by decide) dX5_lift_3 rfl ?_
  refine mj_kS3v (K := m_X5_requireWithin) (q := 9) (mc1 := 0) (ms1 := 0) (mc := 0) (ms := 0) dX5_lift_6 ln_X5_29 ok_X5_requireWithin (Nat.le_of_ble_eq_true rfl) (by decide) rfl rfl rfl (s_within h1 h2) (fun h1 hq => ?_)
  subst hq
  refine mj_iload_n (i := 2) (q := 10) dX5_lift_9 rfl rfl rfl ?_
  refine mj_num1 (v := 3) (q := 11) rfl dX5_lift_10 rfl ?_
  refine mj_num2 (v := 9) (q := 13) (by decide) dX5_lift_11 rfl ?_
  refine mj_kS3v (K := m_X5_requireWithin) (q := 16) (mc1 := 0) (ms1 := 0) (mc := 0) (ms := 0) dX5_lift_13 ln_X5_29 ok_X5_requireWithin (Nat.le_of_ble_eq_true rfl) (by decide) rfl rfl rfl (s_within h3 h4) (fun h1 hq => ?_)
  subst hq
  refine mj_aload_n (i := 0) (q := 17) dX5_lift_16 rfl rfl rfl ?_
  refine mj_getr (x := 0) (q := 20) dX5_lift_17 fl_X5_10 rfl rfl (by first | assumption | exact g3) (by first | assumption | exact g3) ?_
  refine mj_getfv (x := 0) (v := 0) (q := 23) dX5_lift_20 fl_X5_33 rfl rfl (by first | assumption | exact g3) (by rw [f2]; rfl) ?_
  refine mj_num1 (v := 4) (q := 24) rfl dX5_lift_23 rfl ?_
  refine mj_icmp_lt (tgt := 37) (q := 27) dX5_lift_24 (by decide) rfl (fun c_24 => ?_) (fun c_24 => absurd (by decide) c_24)
  refine mj_aload_n (i := 0) (q := 38) dX5_lift_37 rfl rfl rfl ?_
  refine mj_getr (x := 0) (q := 41) dX5_lift_38 fl_X5_10 rfl rfl (by first | assumption | exact g3) (by first | assumption | exact g3) ?_
  refine mj_getfv (x := 0) (v := 0) (q := 44) dX5_lift_41 fl_X5_33 rfl rfl (by first | assumption | exact g3) (by rw [f2]; rfl) ?_
  refine mj_istore_n (i := 3) (q := 45) dX5_lift_44 rfl rfl (by decide) rfl ?_
  dsimp only [List.set]
  refine mj_aload_n (i := 0) (q := 46) dX5_lift_45 rfl rfl rfl ?_
  refine mj_getr (x := 0) (q := 49) dX5_lift_46 fl_X5_10 rfl rfl (by first | assumption | exact g3) (by first | assumption | exact g3) ?_
  refine mj_getr (x := 0) (q := 52) dX5_lift_49 fl_X5_44 rfl rfl (by first | assumption | exact g3) (by first | assumption | exact g3) ?_
  refine mj_iload_n (i := 3) (q := 53) dX5_lift_52 rfl rfl rfl ?_
  refine mj_aald (q := 54) dX5_lift_53 rfl (by first | assumption | exact g3) (by unfold vp_in; decide) (by first | assumption | exact g3) ?_
  refine mj_iload_n (i := 1) (q := 55) dX5_lift_54 rfl rfl rfl ?_
  refine mj_putf (x := 0) (q := 58) dX5_lift_55 fl_X5_48 rfl rfl (by first | assumption | exact g3) rfl rfl rfl ?_
  refine mj_aload_n (i := 0) (q := 59) dX5_lift_58 rfl rfl rfl ?_
  refine mj_getr (x := 0) (q := 62) dX5_lift_59 fl_X5_10 rfl rfl (by first | assumption | exact g3) (by first | assumption | exact g3) ?_
  refine mj_getr (x := 0) (q := 65) dX5_lift_62 fl_X5_44 rfl rfl (by first | assumption | exact g3) (by first | assumption | exact g3) ?_
  refine mj_iload_n (i := 3) (q := 66) dX5_lift_65 rfl rfl rfl ?_
  refine mj_aald (q := 67) dX5_lift_66 rfl (by first | assumption | exact g3) (by unfold vp_in; decide) (by first | assumption | exact g3) ?_
  refine mj_iload_n (i := 2) (q := 68) dX5_lift_67 rfl rfl rfl ?_
  refine mj_putf (x := 0) (q := 71) dX5_lift_68 fl_X5_53 rfl rfl (by first | assumption | exact g3) rfl rfl rfl ?_
  refine mj_aload_n (i := 0) (q := 72) dX5_lift_71 rfl rfl rfl ?_
  refine mj_getr (x := 0) (q := 75) dX5_lift_72 fl_X5_10 rfl rfl (by first | assumption | exact g3) (by first | assumption | exact g3) ?_
  refine mj_dup (q := 76) rfl dX5_lift_75 rfl ?_
  refine mj_getf (x := 0) (q := 79) dX5_lift_76 fl_X5_33 rfl rfl (by first | assumption | exact g3) ?_
  refine mj_num1 (v := 1) (q := 80) rfl dX5_lift_79 rfl ?_
  refine mj_iadd (q := 81) dX5_lift_80 rfl ?_
  refine mj_putf (x := 0) (q := 84) dX5_lift_81 fl_X5_33 rfl rfl (by first | assumption | exact g3) rfl rfl rfl ?_
  refine mj_iload_n (i := 3) (q := 85) dX5_lift_84 rfl rfl rfl ?_
  exact mj_ireturn dX5_lift_85 ⟨_, rfl, rfl⟩ ⟨_, rfl, ⟨rfl, _, rfl, (fun a ha => by (repeat rw [mj_upr (by omega)]))⟩⟩
set_option maxHeartbeats 100000 in
set_option maxRecDepth 100000 in
theorem x_lift1 {d : Nat} {v1 v2 : Int32} {h : mj_H} (hx : v1 < 10 ∨ ¬ v1 ≤ 999) : mj_Rx m_X5_lift (d + 7) 1 6 [.ref 2, .int v1, .int v2] h (fun n1 h1 => n1 = 0 ∧ h1 = h) := by
  refine mj_entry (by refine ⟨by decide +kernel, by decide, rfl, Nat.le_of_ble_eq_true rfl⟩) ?_
  show mj_W _ _ _ _ _ 0 [.ref 2, .int v1, .int v2, .null] [] _
  refine mj_iload_n (i := 1) (q := 1) dX5_lift_0 rfl rfl rfl ?_
  refine mj_num2 (v := 10) (q := 3) (by decide) dX5_lift_1 rfl ?_
  refine mj_num3 (v := 999) (q := 6) (by decide) dX5_lift_3 rfl ?_
  refine mj_kS3x (K := m_X5_requireWithin) (mc1 := 1) (ms1 := 6) (mc := 0) (ms := 0) dX5_lift_6 ln_X5_29 ok_X5_requireWithin (Nat.le_of_ble_eq_true rfl) (by decide) rfl rfl (s_within_x hx) (fun n1 h1 hq => ?_)
  obtain ⟨rfl, rfl⟩ := hq
  exact mj_T_out rfl ⟨rfl, rfl⟩
set_option maxHeartbeats 100000 in
set_option maxRecDepth 100000 in
theorem x_lift2 {d : Nat} {v1 v2 : Int32} {h : mj_H} (h1 : ¬ v1 < 10) (h2 : v1 ≤ 999) (hx : v2 < 3 ∨ ¬ v2 ≤ 9) : mj_Rx m_X5_lift (d + 7) 1 6 [.ref 2, .int v1, .int v2] h (fun n1 h1 => n1 = 0 ∧ h1 = h) := by
  refine mj_entry (by refine ⟨by decide +kernel, by decide, rfl, Nat.le_of_ble_eq_true rfl⟩) ?_
  show mj_W _ _ _ _ _ 0 [.ref 2, .int v1, .int v2, .null] [] _
  refine mj_iload_n (i := 1) (q := 1) dX5_lift_0 rfl rfl rfl ?_
  refine mj_num2 (v := 10) (q := 3) (by decide) dX5_lift_1 rfl ?_
  refine mj_num3 (v := 999) (q := 6) (by decide) dX5_lift_3 rfl ?_
  refine mj_kS3v (K := m_X5_requireWithin) (q := 9) (mc1 := 0) (ms1 := 0) (mc := 1) (ms := 6) dX5_lift_6 ln_X5_29 ok_X5_requireWithin (Nat.le_of_ble_eq_true rfl) (by decide) rfl rfl rfl (s_within h1 h2) (fun h1 hq => ?_)
  subst hq
  refine mj_iload_n (i := 2) (q := 10) dX5_lift_9 rfl rfl rfl ?_
  refine mj_num1 (v := 3) (q := 11) rfl dX5_lift_10 rfl ?_
  refine mj_num2 (v := 9) (q := 13) (by decide) dX5_lift_11 rfl ?_
  refine mj_kS3x (K := m_X5_requireWithin) (mc1 := 1) (ms1 := 6) (mc := 0) (ms := 0) dX5_lift_13 ln_X5_29 ok_X5_requireWithin (Nat.le_of_ble_eq_true rfl) (by decide) rfl rfl (s_within_x hx) (fun n1 h1 hq => ?_)
  obtain ⟨rfl, rfl⟩ := hq
  exact mj_T_out rfl ⟨rfl, rfl⟩
set_option maxHeartbeats 100000 in
set_option maxRecDepth 100000 in
theorem x_pass0 {d : Nat} {v1 v2 v3 v4 v5 v6 : Int32} {h : mj_H}  (hx : v1 < 1 ∨ ¬ v1 ≤ 48) : mj_Rx m_X5_pass (d + 7) 1 6 [.ref 2, .int v1, .int v2, .int v3, .int v4, .int v5, .int v6] h (fun n1 h1 => n1 = 0 ∧ h1 = h) := by
  refine mj_entry (by refine ⟨by decide +kernel, by decide, rfl, Nat.le_of_ble_eq_true rfl⟩) ?_
  show mj_W _ _ _ _ _ 0 [.ref 2, .int v1, .int v2, .int v3, .int v4, .int v5, .int v6, .null, .null] [] _
  refine mj_iload_n (i := 1) (q := 1) dX5_pass_0 rfl rfl rfl ?_
  refine mj_num1 (v := 1) (q := 2) rfl dX5_pass_1 rfl ?_
  refine mj_num2 (v := 48) (q := 4) (by decide) dX5_pass_2 rfl ?_
  refine mj_kS3x (K := m_X5_requireWithin) (mc1 := 1) (ms1 := 6) (mc := 0) (ms := 0) dX5_pass_4 ln_X5_29 ok_X5_requireWithin (Nat.le_of_ble_eq_true rfl) (by decide) rfl rfl (s_within_x hx) (fun n1 h1 hq => ?_)
  obtain ⟨rfl, rfl⟩ := hq
  exact mj_T_out rfl ⟨rfl, rfl⟩
set_option maxHeartbeats 100000 in
set_option maxRecDepth 100000 in
theorem x_pass1 {d : Nat} {v1 v2 v3 v4 v5 v6 : Int32} {h : mj_H} (h0a : ¬ v1 < 1) (h0b : v1 ≤ 48) (hx : v2 < -20 ∨ ¬ v2 ≤ 20) : mj_Rx m_X5_pass (d + 7) 1 6 [.ref 2, .int v1, .int v2, .int v3, .int v4, .int v5, .int v6] h (fun n1 h1 => n1 = 0 ∧ h1 = h) := by
  refine mj_entry (by refine ⟨by decide +kernel, by decide, rfl, Nat.le_of_ble_eq_true rfl⟩) ?_
  show mj_W _ _ _ _ _ 0 [.ref 2, .int v1, .int v2, .int v3, .int v4, .int v5, .int v6, .null, .null] [] _
  refine mj_iload_n (i := 1) (q := 1) dX5_pass_0 rfl rfl rfl ?_
  refine mj_num1 (v := 1) (q := 2) rfl dX5_pass_1 rfl ?_
  refine mj_num2 (v := 48) (q := 4) (by decide) dX5_pass_2 rfl ?_
  refine mj_kS3v (K := m_X5_requireWithin) (q := 7) (mc1 := 0) (ms1 := 0) (mc := 1) (ms := 6) dX5_pass_4 ln_X5_29 ok_X5_requireWithin (Nat.le_of_ble_eq_true rfl) (by decide) rfl rfl rfl (s_within h0a h0b) (fun h1 hq => ?_)
  subst hq
  refine mj_iload_n (i := 2) (q := 8) dX5_pass_7 rfl rfl rfl ?_
  refine mj_num2 (v := (-20)) (q := 10) (by decide) dX5_pass_8 rfl ?_
  refine mj_num2 (v := 20) (q := 12) (by decide) dX5_pass_10 rfl ?_
  refine mj_kS3x (K := m_X5_requireWithin) (mc1 := 1) (ms1 := 6) (mc := 0) (ms := 0) dX5_pass_12 ln_X5_29 ok_X5_requireWithin (Nat.le_of_ble_eq_true rfl) (by decide) rfl rfl (s_within_x hx) (fun n1 h1 hq => ?_)
  obtain ⟨rfl, rfl⟩ := hq
  exact mj_T_out rfl ⟨rfl, rfl⟩
set_option maxHeartbeats 100000 in
set_option maxRecDepth 100000 in
theorem x_pass2 {d : Nat} {v1 v2 v3 v4 v5 v6 : Int32} {h : mj_H} (h0a : ¬ v1 < 1) (h0b : v1 ≤ 48) (h1a : ¬ v2 < -20) (h1b : v2 ≤ 20) (hx : v3 < 0 ∨ ¬ v3 ≤ 9) : mj_Rx m_X5_pass (d + 7) 1 6 [.ref 2, .int v1, .int v2, .int v3, .int v4, .int v5, .int v6] h (fun n1 h1 => n1 = 0 ∧ h1 = h) := by
  refine mj_entry (by refine ⟨by decide +kernel, by decide, rfl, Nat.le_of_ble_eq_true rfl⟩) ?_
  show mj_W _ _ _ _ _ 0 [.ref 2, .int v1, .int v2, .int v3, .int v4, .int v5, .int v6, .null, .null] [] _
  refine mj_iload_n (i := 1) (q := 1) dX5_pass_0 rfl rfl rfl ?_
  refine mj_num1 (v := 1) (q := 2) rfl dX5_pass_1 rfl ?_
  refine mj_num2 (v := 48) (q := 4) (by decide) dX5_pass_2 rfl ?_
  refine mj_kS3v (K := m_X5_requireWithin) (q := 7) (mc1 := 0) (ms1 := 0) (mc := 1) (ms := 6) dX5_pass_4 ln_X5_29 ok_X5_requireWithin (Nat.le_of_ble_eq_true rfl) (by decide) rfl rfl rfl (s_within h0a h0b) (fun h1 hq => ?_)
  subst hq
  refine mj_iload_n (i := 2) (q := 8) dX5_pass_7 rfl rfl rfl ?_
  refine mj_num2 (v := (-20)) (q := 10) (by decide) dX5_pass_8 rfl ?_
  refine mj_num2 (v := 20) (q := 12) (by decide) dX5_pass_10 rfl ?_
  refine mj_kS3v (K := m_X5_requireWithin) (q := 15) (mc1 := 0) (ms1 := 0) (mc := 1) (ms := 6) dX5_pass_12 ln_X5_29 ok_X5_requireWithin (Nat.le_of_ble_eq_true rfl) (by decide) rfl rfl rfl (s_within h1a h1b) (fun h1 hq => ?_)
  subst hq
  refine mj_iload_n (i := 3) (q := 16) dX5_pass_15 rfl rfl rfl ?_
  refine mj_num1 (v := 0) (q := 17) rfl dX5_pass_16 rfl ?_
  refine mj_num2 (v := 9) (q := 19) (by decide) dX5_pass_17 rfl ?_
  refine mj_kS3x (K := m_X5_requireWithin) (mc1 := 1) (ms1 := 6) (mc := 0) (ms := 0) dX5_pass_19 ln_X5_29 ok_X5_requireWithin (Nat.le_of_ble_eq_true rfl) (by decide) rfl rfl (s_within_x hx) (fun n1 h1 hq => ?_)
  obtain ⟨rfl, rfl⟩ := hq
  exact mj_T_out rfl ⟨rfl, rfl⟩
set_option maxHeartbeats 100000 in
set_option maxRecDepth 100000 in
theorem x_pass3 {d : Nat} {v1 v2 v3 v4 v5 v6 : Int32} {h : mj_H} (h0a : ¬ v1 < 1) (h0b : v1 ≤ 48) (h1a : ¬ v2 < -20) (h1b : v2 ≤ 20) (h2a : ¬ v3 < 0) (h2b : v3 ≤ 9) (hx : v4 < 0 ∨ ¬ v4 ≤ 9) : mj_Rx m_X5_pass (d + 7) 1 6 [.ref 2, .int v1, .int v2, .int v3, .int v4, .int v5, .int v6] h (fun n1 h1 => n1 = 0 ∧ h1 = h) := by
  refine mj_entry (by refine ⟨by decide +kernel, by decide, rfl, Nat.le_of_ble_eq_true rfl⟩) ?_
  show mj_W _ _ _ _ _ 0 [.ref 2, .int v1, .int v2, .int v3, .int v4, .int v5, .int v6, .null, .null] [] _
  refine mj_iload_n (i := 1) (q := 1) dX5_pass_0 rfl rfl rfl ?_
  refine mj_num1 (v := 1) (q := 2) rfl dX5_pass_1 rfl ?_
  refine mj_num2 (v := 48) (q := 4) (by decide) dX5_pass_2 rfl ?_
  refine mj_kS3v (K := m_X5_requireWithin) (q := 7) (mc1 := 0) (ms1 := 0) (mc := 1) (ms := 6) dX5_pass_4 ln_X5_29 ok_X5_requireWithin (Nat.le_of_ble_eq_true rfl) (by decide) rfl rfl rfl (s_within h0a h0b) (fun h1 hq => ?_)
  subst hq
  refine mj_iload_n (i := 2) (q := 8) dX5_pass_7 rfl rfl rfl ?_
  refine mj_num2 (v := (-20)) (q := 10) (by decide) dX5_pass_8 rfl ?_
  refine mj_num2 (v := 20) (q := 12) (by decide) dX5_pass_10 rfl ?_
  refine mj_kS3v (K := m_X5_requireWithin) (q := 15) (mc1 := 0) (ms1 := 0) (mc := 1) (ms := 6) dX5_pass_12 ln_X5_29 ok_X5_requireWithin (Nat.le_of_ble_eq_true rfl) (by decide) rfl rfl rfl (s_within h1a h1b) (fun h1 hq => ?_)
  subst hq
  refine mj_iload_n (i := 3) (q := 16) dX5_pass_15 rfl rfl rfl ?_
  refine mj_num1 (v := 0) (q := 17) rfl dX5_pass_16 rfl ?_
  refine mj_num2 (v := 9) (q := 19) (by decide) dX5_pass_17 rfl ?_
  refine mj_kS3v (K := m_X5_requireWithin) (q := 22) (mc1 := 0) (ms1 := 0) (mc := 1) (ms := 6) dX5_pass_19 ln_X5_29 ok_X5_requireWithin (Nat.le_of_ble_eq_true rfl) (by decide) rfl rfl rfl (s_within h2a h2b) (fun h1 hq => ?_)
  subst hq
  refine mj_iload (i := 4) (q := 24) dX5_pass_22 rfl rfl ?_
  refine mj_num1 (v := 0) (q := 25) rfl dX5_pass_24 rfl ?_
  refine mj_num2 (v := 9) (q := 27) (by decide) dX5_pass_25 rfl ?_
  refine mj_kS3x (K := m_X5_requireWithin) (mc1 := 1) (ms1 := 6) (mc := 0) (ms := 0) dX5_pass_27 ln_X5_29 ok_X5_requireWithin (Nat.le_of_ble_eq_true rfl) (by decide) rfl rfl (s_within_x hx) (fun n1 h1 hq => ?_)
  obtain ⟨rfl, rfl⟩ := hq
  exact mj_T_out rfl ⟨rfl, rfl⟩
set_option maxHeartbeats 100000 in
set_option maxRecDepth 100000 in
theorem x_pass4 {d : Nat} {v1 v2 v3 v4 v5 v6 : Int32} {h : mj_H} (h0a : ¬ v1 < 1) (h0b : v1 ≤ 48) (h1a : ¬ v2 < -20) (h1b : v2 ≤ 20) (h2a : ¬ v3 < 0) (h2b : v3 ≤ 9) (h3a : ¬ v4 < 0) (h3b : v4 ≤ 9) (hx : v5 < 0 ∨ ¬ v5 ≤ 3) : mj_Rx m_X5_pass (d + 7) 1 6 [.ref 2, .int v1, .int v2, .int v3, .int v4, .int v5, .int v6] h (fun n1 h1 => n1 = 0 ∧ h1 = h) := by
  refine mj_entry (by refine ⟨by decide +kernel, by decide, rfl, Nat.le_of_ble_eq_true rfl⟩) ?_
  show mj_W _ _ _ _ _ 0 [.ref 2, .int v1, .int v2, .int v3, .int v4, .int v5, .int v6, .null, .null] [] _
  refine mj_iload_n (i := 1) (q := 1) dX5_pass_0 rfl rfl rfl ?_
  refine mj_num1 (v := 1) (q := 2) rfl dX5_pass_1 rfl ?_
  refine mj_num2 (v := 48) (q := 4) (by decide) dX5_pass_2 rfl ?_
  refine mj_kS3v (K := m_X5_requireWithin) (q := 7) (mc1 := 0) (ms1 := 0) (mc := 1) (ms := 6) dX5_pass_4 ln_X5_29 ok_X5_requireWithin (Nat.le_of_ble_eq_true rfl) (by decide) rfl rfl rfl (s_within h0a h0b) (fun h1 hq => ?_)
  subst hq
  refine mj_iload_n (i := 2) (q := 8) dX5_pass_7 rfl rfl rfl ?_
  refine mj_num2 (v := (-20)) (q := 10) (by decide) dX5_pass_8 rfl ?_
  refine mj_num2 (v := 20) (q := 12) (by decide) dX5_pass_10 rfl ?_
  refine mj_kS3v (K := m_X5_requireWithin) (q := 15) (mc1 := 0) (ms1 := 0) (mc := 1) (ms := 6) dX5_pass_12 ln_X5_29 ok_X5_requireWithin (Nat.le_of_ble_eq_true rfl) (by decide) rfl rfl rfl (s_within h1a h1b) (fun h1 hq => ?_)
  subst hq
  refine mj_iload_n (i := 3) (q := 16) dX5_pass_15 rfl rfl rfl ?_
  refine mj_num1 (v := 0) (q := 17) rfl dX5_pass_16 rfl ?_
  refine mj_num2 (v := 9) (q := 19) (by decide) dX5_pass_17 rfl ?_
  refine mj_kS3v (K := m_X5_requireWithin) (q := 22) (mc1 := 0) (ms1 := 0) (mc := 1) (ms := 6) dX5_pass_19 ln_X5_29 ok_X5_requireWithin (Nat.le_of_ble_eq_true rfl) (by decide) rfl rfl rfl (s_within h2a h2b) (fun h1 hq => ?_)
  subst hq
  refine mj_iload (i := 4) (q := 24) dX5_pass_22 rfl rfl ?_
  refine mj_num1 (v := 0) (q := 25) rfl dX5_pass_24 rfl ?_
  refine mj_num2 (v := 9) (q := 27) (by decide) dX5_pass_25 rfl ?_
  refine mj_kS3v (K := m_X5_requireWithin) (q := 30) (mc1 := 0) (ms1 := 0) (mc := 1) (ms := 6) dX5_pass_27 ln_X5_29 ok_X5_requireWithin (Nat.le_of_ble_eq_true rfl) (by decide) rfl rfl rfl (s_within h3a h3b) (fun h1 hq => ?_)
  subst hq
  refine mj_iload (i := 5) (q := 32) dX5_pass_30 rfl rfl ?_
  refine mj_num1 (v := 0) (q := 33) rfl dX5_pass_32 rfl ?_
  refine mj_num1 (v := 3) (q := 34) rfl dX5_pass_33 rfl ?_
  refine mj_kS3x (K := m_X5_requireWithin) (mc1 := 1) (ms1 := 6) (mc := 0) (ms := 0) dX5_pass_34 ln_X5_29 ok_X5_requireWithin (Nat.le_of_ble_eq_true rfl) (by decide) rfl rfl (s_within_x hx) (fun n1 h1 hq => ?_)
  obtain ⟨rfl, rfl⟩ := hq
  exact mj_T_out rfl ⟨rfl, rfl⟩
set_option maxHeartbeats 100000 in
set_option maxRecDepth 100000 in
theorem x_pass5 {d : Nat} {v1 v2 v3 v4 v5 v6 : Int32} {h : mj_H} (h0a : ¬ v1 < 1) (h0b : v1 ≤ 48) (h1a : ¬ v2 < -20) (h1b : v2 ≤ 20) (h2a : ¬ v3 < 0) (h2b : v3 ≤ 9) (h3a : ¬ v4 < 0) (h3b : v4 ≤ 9) (h4a : ¬ v5 < 0) (h4b : v5 ≤ 3) (hx : v6 < 0 ∨ ¬ v6 ≤ 100) : mj_Rx m_X5_pass (d + 7) 1 6 [.ref 2, .int v1, .int v2, .int v3, .int v4, .int v5, .int v6] h (fun n1 h1 => n1 = 0 ∧ h1 = h) := by
  refine mj_entry (by refine ⟨by decide +kernel, by decide, rfl, Nat.le_of_ble_eq_true rfl⟩) ?_
  show mj_W _ _ _ _ _ 0 [.ref 2, .int v1, .int v2, .int v3, .int v4, .int v5, .int v6, .null, .null] [] _
  refine mj_iload_n (i := 1) (q := 1) dX5_pass_0 rfl rfl rfl ?_
  refine mj_num1 (v := 1) (q := 2) rfl dX5_pass_1 rfl ?_
  refine mj_num2 (v := 48) (q := 4) (by decide) dX5_pass_2 rfl ?_
  refine mj_kS3v (K := m_X5_requireWithin) (q := 7) (mc1 := 0) (ms1 := 0) (mc := 1) (ms := 6) dX5_pass_4 ln_X5_29 ok_X5_requireWithin (Nat.le_of_ble_eq_true rfl) (by decide) rfl rfl rfl (s_within h0a h0b) (fun h1 hq => ?_)
  subst hq
  refine mj_iload_n (i := 2) (q := 8) dX5_pass_7 rfl rfl rfl ?_
  refine mj_num2 (v := (-20)) (q := 10) (by decide) dX5_pass_8 rfl ?_
  refine mj_num2 (v := 20) (q := 12) (by decide) dX5_pass_10 rfl ?_
  refine mj_kS3v (K := m_X5_requireWithin) (q := 15) (mc1 := 0) (ms1 := 0) (mc := 1) (ms := 6) dX5_pass_12 ln_X5_29 ok_X5_requireWithin (Nat.le_of_ble_eq_true rfl) (by decide) rfl rfl rfl (s_within h1a h1b) (fun h1 hq => ?_)
  subst hq
  refine mj_iload_n (i := 3) (q := 16) dX5_pass_15 rfl rfl rfl ?_
  refine mj_num1 (v := 0) (q := 17) rfl dX5_pass_16 rfl ?_
  refine mj_num2 (v := 9) (q := 19) (by decide) dX5_pass_17 rfl ?_
  refine mj_kS3v (K := m_X5_requireWithin) (q := 22) (mc1 := 0) (ms1 := 0) (mc := 1) (ms := 6) dX5_pass_19 ln_X5_29 ok_X5_requireWithin (Nat.le_of_ble_eq_true rfl) (by decide) rfl rfl rfl (s_within h2a h2b) (fun h1 hq => ?_)
  subst hq
  refine mj_iload (i := 4) (q := 24) dX5_pass_22 rfl rfl ?_
  refine mj_num1 (v := 0) (q := 25) rfl dX5_pass_24 rfl ?_
  refine mj_num2 (v := 9) (q := 27) (by decide) dX5_pass_25 rfl ?_
  refine mj_kS3v (K := m_X5_requireWithin) (q := 30) (mc1 := 0) (ms1 := 0) (mc := 1) (ms := 6) dX5_pass_27 ln_X5_29 ok_X5_requireWithin (Nat.le_of_ble_eq_true rfl) (by decide) rfl rfl rfl (s_within h3a h3b) (fun h1 hq => ?_)
  subst hq
  refine mj_iload (i := 5) (q := 32) dX5_pass_30 rfl rfl ?_
  refine mj_num1 (v := 0) (q := 33) rfl dX5_pass_32 rfl ?_
  refine mj_num1 (v := 3) (q := 34) rfl dX5_pass_33 rfl ?_
  refine mj_kS3v (K := m_X5_requireWithin) (q := 37) (mc1 := 0) (ms1 := 0) (mc := 1) (ms := 6) dX5_pass_34 ln_X5_29 ok_X5_requireWithin (Nat.le_of_ble_eq_true rfl) (by decide) rfl rfl rfl (s_within h4a h4b) (fun h1 hq => ?_)
  subst hq
  refine mj_iload (i := 6) (q := 39) dX5_pass_37 rfl rfl ?_
  refine mj_num1 (v := 0) (q := 40) rfl dX5_pass_39 rfl ?_
  refine mj_num2 (v := 100) (q := 42) (by decide) dX5_pass_40 rfl ?_
  refine mj_kS3x (K := m_X5_requireWithin) (mc1 := 1) (ms1 := 6) (mc := 0) (ms := 0) dX5_pass_42 ln_X5_29 ok_X5_requireWithin (Nat.le_of_ble_eq_true rfl) (by decide) rfl rfl (s_within_x hx) (fun n1 h1 hq => ?_)
  obtain ⟨rfl, rfl⟩ := hq
  exact mj_T_out rfl ⟨rfl, rfl⟩
set_option maxHeartbeats 100000 in
set_option maxRecDepth 100000 in
theorem s_tell {d n w : Nat} {v1 v2 v3 v4 v5 : Int32} {K : Nat → mj_K} {f : Nat → Nat → Int32} {g : Nat → Nat → Option Nat} (kw : K w = (2, 6, 0)) : mj_Rv m_X4_tell (d + 1) 0 0 [.ref w, .int v1, .int v2, .int v3, .int v4, .int v5] (n, K, f, g) (fun h1 => ∃ f1, h1 = (n, K, f1, g) ∧ ∀ a, a ≠ w → f1 a = f a) := by
  refine mj_entry (by refine ⟨by decide +kernel, by decide, rfl, Nat.le_of_ble_eq_true rfl⟩) ?_
  show mj_W _ _ _ _ _ 0 [.ref w, .int v1, .int v2, .int v3, .int v4, .int v5] [] _
  refine mj_aload_n (i := 0) (q := 1) dX4_tell_0 rfl rfl rfl ?_
  refine mj_iload_n (i := 1) (q := 2) dX4_tell_1 rfl rfl rfl ?_
  refine mj_putf (x := 0) (q := 5) dX4_tell_2 fl_X4_7 rfl rfl (by first | assumption | simp [mj_up, mj_upl, mj_row, *]) rfl rfl rfl ?_
  refine mj_aload_n (i := 0) (q := 6) dX4_tell_5 rfl rfl rfl ?_
  refine mj_iload_n (i := 2) (q := 7) dX4_tell_6 rfl rfl rfl ?_
  refine mj_putf (x := 0) (q := 10) dX4_tell_7 fl_X4_13 rfl rfl (by first | assumption | simp [mj_up, mj_upl, mj_row, *]) rfl rfl rfl ?_
  refine mj_aload_n (i := 0) (q := 11) dX4_tell_10 rfl rfl rfl ?_
  refine mj_iload_n (i := 3) (q := 12) dX4_tell_11 rfl rfl rfl ?_
  refine mj_putf (x := 0) (q := 15) dX4_tell_12 fl_X4_16 rfl rfl (by first | assumption | simp [mj_up, mj_upl, mj_row, *]) rfl rfl rfl ?_
  refine mj_aload_n (i := 0) (q := 16) dX4_tell_15 rfl rfl rfl ?_
  refine mj_iload (i := 4) (q := 18) dX4_tell_16 rfl rfl ?_
  refine mj_putf (x := 0) (q := 21) dX4_tell_18 fl_X4_19 rfl rfl (by first | assumption | simp [mj_up, mj_upl, mj_row, *]) rfl rfl rfl ?_
  refine mj_aload_n (i := 0) (q := 22) dX4_tell_21 rfl rfl rfl ?_
  refine mj_iload (i := 5) (q := 24) dX4_tell_22 rfl rfl ?_
  refine mj_putf (x := 0) (q := 27) dX4_tell_24 fl_X4_22 rfl rfl (by first | assumption | simp [mj_up, mj_upl, mj_row, *]) rfl rfl rfl ?_
  exact mj_return dX4_tell_27 rfl ⟨rfl, ⟨_, rfl, fun a ha => by (repeat rw [mj_upr ha])⟩⟩
set_option maxHeartbeats 100000 in
set_option maxRecDepth 100000 in
theorem s_clock {d n m : Nat} {K : Nat → mj_K} {f : Nat → Nat → Int32} {g : Nat → Nat → Option Nat} (km : K m = (2, 3, 0)) : mj_Ri m_X1_clock (d + 1) 0 0 [.ref m] (n, K, f, g) (fun r h1 => r = f m 4 % 24 ∧ h1 = (n, K, f, g)) := by
  refine mj_entry (by refine ⟨by decide +kernel, by decide, rfl, Nat.le_of_ble_eq_true rfl⟩) ?_
  show mj_W _ _ _ _ _ 0 [.ref m] [] _
  refine mj_aload_n (i := 0) (q := 1) dX1_clock_0 rfl rfl rfl ?_
  refine mj_getf (x := 0) (q := 4) dX1_clock_1 fl_X1_48 rfl rfl (by first | assumption | simp [mj_up, mj_upl, mj_row, *]) ?_
  refine mj_num2 (v := 24) (q := 6) (by decide) dX1_clock_4 rfl ?_
  refine mj_irem (q := 7) (by decide) dX1_clock_6 rfl ?_
  exact mj_ireturn dX1_clock_7 ⟨_, rfl, rfl⟩ ⟨_, rfl, ⟨rfl, rfl⟩⟩
set_option maxHeartbeats 100000 in
set_option maxRecDepth 100000 in
theorem s_openRuns {d n m : Nat} {K : Nat → mj_K} {f : Nat → Nat → Int32} {g : Nat → Nat → Option Nat} (km : K m = (2, 3, 0)) (h0 : f m 3 = 0) : mj_Ri m_X1_openRuns (d + 1) 0 0 [.ref m] (n, K, f, g) (fun r h1 => r = 0 ∧ h1 = (n, K, f, g)) := by
  refine mj_entry (by refine ⟨by decide +kernel, by decide, rfl, Nat.le_of_ble_eq_true rfl⟩) ?_
  show mj_W _ _ _ _ _ 0 [.ref m, .null, .null] [] _
  refine mj_num1 (v := 0) (q := 1) rfl dX1_openRuns_0 rfl ?_
  refine mj_istore_n (i := 1) (q := 2) dX1_openRuns_1 rfl rfl (by decide) rfl ?_
  dsimp only [List.set]
  refine mj_num1 (v := 0) (q := 3) rfl dX1_openRuns_2 rfl ?_
  refine mj_istore_n (i := 2) (q := 4) dX1_openRuns_3 rfl rfl (by decide) rfl ?_
  dsimp only [List.set]
  refine mj_iload_n (i := 2) (q := 5) dX1_openRuns_4 rfl rfl rfl ?_
  refine mj_aload_n (i := 0) (q := 6) dX1_openRuns_5 rfl rfl rfl ?_
  refine mj_getfv (x := 0) (v := 0) (q := 9) dX1_openRuns_6 fl_X1_42 rfl rfl (by first | assumption | simp [mj_up, mj_upl, mj_row, *]) h0 ?_
  refine mj_icmp_ge (tgt := 33) (q := 12) dX1_openRuns_9 (by decide) rfl (fun c_9 => ?_) (fun c_9 => absurd (Int32.le_refl _) c_9)
  refine mj_iload_n (i := 1) (q := 34) dX1_openRuns_33 rfl rfl rfl ?_
  exact mj_ireturn dX1_openRuns_34 ⟨_, rfl, rfl⟩ ⟨_, rfl, ⟨rfl, rfl⟩⟩
set_option maxHeartbeats 100000 in
set_option maxRecDepth 100000 in
theorem s_depthByArea {d n m : Nat} {K : Nat → mj_K} {f : Nat → Nat → Int32} {g : Nat → Nat → Option Nat} (km : K m = (2, 3, 0)) (h0 : f m 3 = 0) : mj_Ri m_X1_depthByArea (d + 1) 0 0 [.ref m] (n, K, f, g) (fun r h1 => r = 0 ∧ h1 = (n, K, f, g)) := by
  refine mj_entry (by refine ⟨by decide +kernel, by decide, rfl, Nat.le_of_ble_eq_true rfl⟩) ?_
  show mj_W _ _ _ _ _ 0 [.ref m, .null, .null] [] _
  refine mj_num1 (v := 0) (q := 1) rfl dX1_depthByArea_0 rfl ?_
  refine mj_istore_n (i := 1) (q := 2) dX1_depthByArea_1 rfl rfl (by decide) rfl ?_
  dsimp only [List.set]
  refine mj_num1 (v := 0) (q := 3) rfl dX1_depthByArea_2 rfl ?_
  refine mj_istore_n (i := 2) (q := 4) dX1_depthByArea_3 rfl rfl (by decide) rfl ?_
  dsimp only [List.set]
  refine mj_iload_n (i := 2) (q := 5) dX1_depthByArea_4 rfl rfl rfl ?_
  refine mj_aload_n (i := 0) (q := 6) dX1_depthByArea_5 rfl rfl rfl ?_
  refine mj_getfv (x := 0) (v := 0) (q := 9) dX1_depthByArea_6 fl_X1_42 rfl rfl (by first | assumption | simp [mj_up, mj_upl, mj_row, *]) h0 ?_
  refine mj_icmp_ge (tgt := 43) (q := 12) dX1_depthByArea_9 (by decide) rfl (fun c_9 => ?_) (fun c_9 => absurd (Int32.le_refl _) c_9)
  refine mj_iload_n (i := 1) (q := 44) dX1_depthByArea_43 rfl rfl rfl ?_
  exact mj_ireturn dX1_depthByArea_44 ⟨_, rfl, rfl⟩ ⟨_, rfl, ⟨rfl, rfl⟩⟩
set_option maxHeartbeats 100000 in
set_option maxRecDepth 100000 in
theorem s_wholeArea {d n m : Nat} {K : Nat → mj_K} {f : Nat → Nat → Int32} {g : Nat → Nat → Option Nat} (km : K m = (2, 3, 0)) (h0 : f m 3 = 0) : mj_Ri m_X1_wholeArea (d + 1) 0 0 [.ref m] (n, K, f, g) (fun r h1 => r = 0 ∧ h1 = (n, K, f, g)) := by
  refine mj_entry (by refine ⟨by decide +kernel, by decide, rfl, Nat.le_of_ble_eq_true rfl⟩) ?_
  show mj_W _ _ _ _ _ 0 [.ref m, .null, .null] [] _
  refine mj_num1 (v := 0) (q := 1) rfl dX1_wholeArea_0 rfl ?_
  refine mj_istore_n (i := 1) (q := 2) dX1_wholeArea_1 rfl rfl (by decide) rfl ?_
  dsimp only [List.set]
  refine mj_num1 (v := 0) (q := 3) rfl dX1_wholeArea_2 rfl ?_
  refine mj_istore_n (i := 2) (q := 4) dX1_wholeArea_3 rfl rfl (by decide) rfl ?_
  dsimp only [List.set]
  refine mj_iload_n (i := 2) (q := 5) dX1_wholeArea_4 rfl rfl rfl ?_
  refine mj_aload_n (i := 0) (q := 6) dX1_wholeArea_5 rfl rfl rfl ?_
  refine mj_getfv (x := 0) (v := 0) (q := 9) dX1_wholeArea_6 fl_X1_42 rfl rfl (by first | assumption | simp [mj_up, mj_upl, mj_row, *]) h0 ?_
  refine mj_icmp_ge (tgt := 30) (q := 12) dX1_wholeArea_9 (by decide) rfl (fun c_9 => ?_) (fun c_9 => absurd (Int32.le_refl _) c_9)
  refine mj_iload_n (i := 1) (q := 31) dX1_wholeArea_30 rfl rfl rfl ?_
  exact mj_ireturn dX1_wholeArea_31 ⟨_, rfl, rfl⟩ ⟨_, rfl, ⟨rfl, rfl⟩⟩
set_option maxHeartbeats 100000 in
set_option maxRecDepth 100000 in
theorem s_holdLifts {d n m : Nat} {v : Int32} {K : Nat → mj_K} {f : Nat → Nat → Int32} {g : Nat → Nat → Option Nat} (km : K m = (2, 3, 0)) (h0 : f m 2 = 0) : mj_Rv m_X1_holdLifts (d + 1) 0 0 [.ref m, .int v] (n, K, f, g) (fun h1 => h1 = (n, K, f, g)) := by
  refine mj_entry (by refine ⟨by decide +kernel, by decide, rfl, Nat.le_of_ble_eq_true rfl⟩) ?_
  show mj_W _ _ _ _ _ 0 [.ref m, .int v, .null] [] _
  refine mj_num1 (v := 0) (q := 1) rfl dX1_holdLifts_0 rfl ?_
  refine mj_istore_n (i := 2) (q := 2) dX1_holdLifts_1 rfl rfl (by decide) rfl ?_
  dsimp only [List.set]
  refine mj_iload_n (i := 2) (q := 3) dX1_holdLifts_2 rfl rfl rfl ?_
  refine mj_aload_n (i := 0) (q := 4) dX1_holdLifts_3 rfl rfl rfl ?_
  refine mj_getfv (x := 0) (v := 0) (q := 7) dX1_holdLifts_4 fl_X1_35 rfl rfl (by first | assumption | simp [mj_up, mj_upl, mj_row, *]) h0 ?_
  refine mj_icmp_ge (tgt := 39) (q := 10) dX1_holdLifts_7 (by decide) rfl (fun c_7 => ?_) (fun c_7 => absurd (Int32.le_refl _) c_7)
  exact mj_return dX1_holdLifts_39 rfl ⟨rfl, rfl⟩
set_option maxHeartbeats 100000 in
set_option maxRecDepth 100000 in
theorem s_carrySkiers {d n m : Nat} {K : Nat → mj_K} {f : Nat → Nat → Int32} {g : Nat → Nat → Option Nat} (km : K m = (2, 3, 0)) (h0 : f m 2 = 0) : mj_Rv m_X1_carrySkiers (d + 1) 0 0 [.ref m] (n, K, f, g) (fun h1 => ∃ f1, h1 = (n, K, f1, g) ∧ (∀ a, a ≠ m → f1 a = f a) ∧ ∀ j, j ≠ 4 → j ≠ 5 → j ≠ 15 → f1 m j = f m j) := by
  refine mj_entry (by refine ⟨by decide +kernel, by decide, rfl, Nat.le_of_ble_eq_true rfl⟩) ?_
  show mj_W _ _ _ _ _ 0 [.ref m, .null, .null, .null, .null] [] _
  refine mj_aload_n (i := 0) (q := 1) dX1_carrySkiers_0 rfl rfl rfl ?_
  refine mj_getf (x := 0) (q := 4) dX1_carrySkiers_1 fl_X1_54 rfl rfl (by first | assumption | simp [mj_up, mj_upl, mj_row, *]) ?_
  refine mj_istore_n (i := 1) (q := 5) dX1_carrySkiers_4 rfl rfl (by decide) rfl ?_
  dsimp only [List.set]
  refine mj_num1 (v := 0) (q := 6) rfl dX1_carrySkiers_5 rfl ?_
  refine mj_istore_n (i := 2) (q := 7) dX1_carrySkiers_6 rfl rfl (by decide) rfl ?_
  dsimp only [List.set]
  refine mj_iload_n (i := 2) (q := 8) dX1_carrySkiers_7 rfl rfl rfl ?_
  refine mj_aload_n (i := 0) (q := 9) dX1_carrySkiers_8 rfl rfl rfl ?_
  refine mj_getfv (x := 0) (v := 0) (q := 12) dX1_carrySkiers_9 fl_X1_35 rfl rfl (by first | assumption | simp [mj_up, mj_upl, mj_row, *]) h0 ?_
  refine mj_icmp_ge (tgt := 98) (q := 15) dX1_carrySkiers_12 (by decide) rfl (fun c_12 => ?_) (fun c_12 => absurd (Int32.le_refl _) c_12)
  refine mj_aload_n (i := 0) (q := 99) dX1_carrySkiers_98 rfl rfl rfl ?_
  refine mj_dup (q := 100) rfl dX1_carrySkiers_99 rfl ?_
  refine mj_getf (x := 0) (q := 103) dX1_carrySkiers_100 fl_X1_72 rfl rfl (by first | assumption | simp [mj_up, mj_upl, mj_row, *]) ?_
  refine mj_iload_n (i := 1) (q := 104) dX1_carrySkiers_103 rfl rfl rfl ?_
  refine mj_iadd (q := 105) dX1_carrySkiers_104 rfl ?_
  refine mj_putf (x := 0) (q := 108) dX1_carrySkiers_105 fl_X1_72 rfl rfl (by first | assumption | simp [mj_up, mj_upl, mj_row, *]) rfl rfl rfl ?_
  exact mj_return dX1_carrySkiers_108 rfl ⟨rfl, ⟨_, rfl, fun a ha => mj_upr ha, fun j j1 j2 j3 => mj_upn (Or.inr j3)⟩⟩
set_option maxHeartbeats 100000 in
set_option maxRecDepth 100000 in
theorem s_passHour {d n m w : Nat} {K : Nat → mj_K} {f : Nat → Nat → Int32} {g : Nat → Nat → Option Nat} (km : K m = (2, 3, 0)) (kw : K w = (2, 6, 0)) (h0 : f m 2 = 0) (h1 : f m 3 = 0) : mj_Rv m_X1_passHour (d + 2) 0 0 [.ref m, .ref w] (n, K, f, g) (fun h1 => ∃ f1, h1 = (n, K, f1, g) ∧ (∀ a, a ≠ m → f1 a = f a) ∧ ∀ j, j ≠ 4 → j ≠ 5 → j ≠ 15 → f1 m j = f m j) := by
  refine mj_entry (by refine ⟨by decide +kernel, by decide, rfl, Nat.le_of_ble_eq_true rfl⟩) ?_
  show mj_W _ _ _ _ _ 0 [.ref m, .ref w, .null, .null, .null] [] _
  refine mj_aload_n (i := 0) (q := 1) dX1_passHour_0 rfl rfl rfl ?_
  refine mj_dup (q := 2) rfl dX1_passHour_1 rfl ?_
  refine mj_getf (x := 0) (q := 5) dX1_passHour_2 fl_X1_48 rfl rfl (by first | assumption | simp [mj_up, mj_upl, mj_row, *]) ?_
  refine mj_num1 (v := 1) (q := 6) rfl dX1_passHour_5 rfl ?_
  refine mj_iadd (q := 7) dX1_passHour_6 rfl ?_
  refine mj_putf (x := 0) (q := 10) dX1_passHour_7 fl_X1_48 rfl rfl (by first | assumption | simp [mj_up, mj_upl, mj_row, *]) rfl rfl rfl ?_
  refine mj_aload_n (i := 0) (q := 11) dX1_passHour_10 rfl rfl rfl ?_
  refine mj_aload_n (i := 1) (q := 12) dX1_passHour_11 rfl rfl rfl ?_
  refine mj_getf (x := 0) (q := 15) dX1_passHour_12 fl_X1_150 rfl rfl (by first | assumption | simp [mj_up, mj_upl, mj_row, *]) ?_
  refine mj_putf (x := 0) (q := 18) dX1_passHour_15 fl_X1_51 rfl rfl (by first | assumption | simp [mj_up, mj_upl, mj_row, *]) rfl rfl rfl ?_
  refine mj_num1 (v := 0) (q := 19) rfl dX1_passHour_18 rfl ?_
  refine mj_istore_n (i := 2) (q := 20) dX1_passHour_19 rfl rfl (by decide) rfl ?_
  dsimp only [List.set]
  refine mj_iload_n (i := 2) (q := 21) dX1_passHour_20 rfl rfl rfl ?_
  refine mj_aload_n (i := 0) (q := 22) dX1_passHour_21 rfl rfl rfl ?_
  refine mj_getfv (x := 0) (v := 0) (q := 25) dX1_passHour_22 fl_X1_42 rfl rfl (by first | assumption | simp [mj_up, mj_upl, mj_row, *]) (by rw [mj_upn (Or.inr (by decide)), mj_upn (Or.inr (by decide))]; exact h1) ?_
  refine mj_icmp_ge (tgt := 127) (q := 28) dX1_passHour_25 (by decide) rfl (fun c_25 => ?_) (fun c_25 => absurd (Int32.le_refl _) c_25)
  refine mj_aload_n (i := 0) (q := 128) dX1_passHour_127 rfl rfl rfl ?_
  refine mj_aload_n (i := 1) (q := 129) dX1_passHour_128 rfl rfl rfl ?_
  refine mj_getf (x := 0) (q := 132) dX1_passHour_129 fl_X1_150 rfl rfl (by first | assumption | simp [mj_up, mj_upl, mj_row, *]) ?_
  refine mj_kV1v (K := m_X1_holdLifts) (q := 135) (mc1 := 0) (ms1 := 0) (mc := 0) (ms := 0) dX1_passHour_132 ln_X1_182 ok_X1_holdLifts (Nat.le_of_ble_eq_true rfl) (by decide) (mj_rc2 (x := 0) (ci := 3) (by first | assumption | simp [mj_up, mj_upl, mj_row, *]) rfl) rfl rfl rfl (s_holdLifts km (by rw [mj_upn (Or.inr (by decide)), mj_upn (Or.inr (by decide))]; exact h0)) (fun h1 hq => ?_)
  subst hq
  refine mj_aload_n (i := 0) (q := 136) dX1_passHour_135 rfl rfl rfl ?_
  refine mj_kV0i (K := m_X1_clock) (q := 139) (mc1 := 0) (ms1 := 0) (mc := 0) (ms := 0) dX1_passHour_136 ln_X1_161 ok_X1_clock (Nat.le_of_ble_eq_true rfl) (by decide) (mj_rc2 (x := 0) (ci := 3) (by first | assumption | simp [mj_up, mj_upl, mj_row, *]) rfl) rfl rfl rfl (s_clock km) (fun r_136 h1 hq => ?_)
  obtain ⟨rfl, rfl⟩ := hq
  refine mj_num2 (v := 9) (q := 141) (by decide) dX1_passHour_139 rfl ?_
  refine mj_icmp_lt (tgt := 157) (q := 144) dX1_passHour_141 (by decide) rfl (fun c_141 => ?_) (fun c_141 => ?_)
  · exact mj_return dX1_passHour_157 rfl ⟨rfl, ⟨_, rfl, fun a ha => by (repeat rw [mj_upr ha]), fun j j1 j2 j3 => by (repeat rw [mj_upn (Or.inr (by assumption))])⟩⟩
  · refine mj_aload_n (i := 0) (q := 145) dX1_passHour_144 rfl rfl rfl ?_
    refine mj_kV0i (K := m_X1_clock) (q := 148) (mc1 := 0) (ms1 := 0) (mc := 0) (ms := 0) dX1_passHour_145 ln_X1_161 ok_X1_clock (Nat.le_of_ble_eq_true rfl) (by decide) (mj_rc2 (x := 0) (ci := 3) (by first | assumption | simp [mj_up, mj_upl, mj_row, *]) rfl) rfl rfl rfl (s_clock km) (fun r_145 h1 hq => ?_)
    obtain ⟨rfl, rfl⟩ := hq
    refine mj_num2 (v := 16) (q := 150) (by decide) dX1_passHour_148 rfl ?_
    refine mj_icmp_gt (tgt := 157) (q := 153) dX1_passHour_150 (by decide) rfl (fun c_150 => ?_) (fun c_150 => ?_)
    · exact mj_return dX1_passHour_157 rfl ⟨rfl, ⟨_, rfl, fun a ha => by (repeat rw [mj_upr ha]), fun j j1 j2 j3 => by (repeat rw [mj_upn (Or.inr (by assumption))])⟩⟩
    · refine mj_aload_n (i := 0) (q := 154) dX1_passHour_153 rfl rfl rfl ?_
      refine mj_kV0v (K := m_X1_carrySkiers) (q := 157) (mc1 := 0) (ms1 := 0) (mc := 0) (ms := 0) dX1_passHour_154 ln_X1_185 ok_X1_carrySkiers (Nat.le_of_ble_eq_true rfl) (by decide) (mj_rc2 (x := 0) (ci := 3) (by first | assumption | simp [mj_up, mj_upl, mj_row, *]) rfl) rfl rfl rfl (s_carrySkiers km (by rw [mj_upn (Or.inr (by decide)), mj_upn (Or.inr (by decide))]; exact h0)) (fun h1 hq => ?_)
      obtain ⟨f9, rfl, q1, q2⟩ := hq
      exact mj_return dX1_passHour_157 rfl ⟨rfl, ⟨_, rfl, fun a ha => (q1 a ha).trans (by (repeat rw [mj_upr ha])), fun j j1 j2 j3 => (q2 j j1 j2 j3).trans (by (repeat rw [mj_upn (Or.inr (by assumption))]))⟩⟩
set_option maxHeartbeats 100000 in
set_option maxRecDepth 100000 in
theorem s_pass {d n : Nat} {v1 v2 v3 v4 v5 v6 : Int32} {K : Nat → mj_K} {f : Nat → Nat → Int32} {g : Nat → Nat → Option Nat} (k1 : K 2 = (2, 7, 0)) (g1 : g 2 0 = some 3) (k2 : K 3 = (2, 3, 0)) (f2 : f 3 = v0M) (g9 : g 2 3 = some 144) (k9 : K 144 = (2, 6, 0)) (h0a : ¬ v1 < 1) (h0b : v1 ≤ 48) (h1a : ¬ v2 < -20) (h1b : v2 ≤ 20) (h2a : ¬ v3 < 0) (h2b : v3 ≤ 9) (h3a : ¬ v4 < 0) (h3b : v4 ≤ 9) (h4a : ¬ v5 < 0) (h4b : v5 ≤ 3) (h5a : ¬ v6 < 0) (h5b : v6 ≤ 100) : mj_Ri m_X5_pass (d + 4) 0 0 [.ref 2, .int v1, .int v2, .int v3, .int v4, .int v5, .int v6] (n, K, f, g) (fun r h1 => r = 0 ∧ ∃ f1, h1 = (n, K, f1, g) ∧ ∀ a, (144 < a ∨ a = 0) → f1 a = f a) := by
  obtain ⟨N, hN, rfl⟩ := nI_of2 (M := 48) (n := 48) rfl (fun z => h0a (Int32.lt_trans z (by decide))) h0b
  have loop : ∀ (j i : Nat) (f1 : Nat → Nat → Int32), i + j = N → (∀ a, (144 < a ∨ a = 0) → f1 a = f a) → f1 3 2 = 0 → f1 3 3 = 0 → f1 3 10 = 0 → mj_W m_X5_pass (d + 4) 0 0 (fun v h1 => ∃ r, v = some (.int r) ∧ (fun r h1 => r = 0 ∧ ∃ f1, h1 = (n, K, f1, g) ∧ ∀ a, (144 < a ∨ a = 0) → f1 a = f a) r h1, fun _ _ => False) 97 [.ref 2, .int (nI N), .int v2, .int v3, .int v4, .int v5, .int v6, .int 0, .int (nI i)] [] (n, K, f1, g) := by
    intro j
    induction j with
    | zero =>
      intro i f1 hi q0 q1 q2 q3
      have hi : i = N := by omega
      subst hi
      refine mj_iload (i := 8) (q := 99) dX5_pass_97 rfl rfl ?_
      refine mj_iload_n (i := 1) (q := 100) dX5_pass_99 rfl rfl rfl ?_
      refine mj_icmp_ge (tgt := 120) (q := 103) dX5_pass_100 (by decide) rfl (fun c_100 => ?_) (fun c_100 => absurd (Int32.le_refl _) c_100)
      refine mj_aload_n (i := 0) (q := 121) dX5_pass_120 rfl rfl rfl ?_
      refine mj_getr (x := 0) (q := 124) dX5_pass_121 fl_X5_10 rfl rfl (by first | assumption | simp [mj_up, mj_upl, mj_row, *]) (by first | assumption | simp [mj_up, mj_upl, mj_row, *]) ?_
      refine mj_getfv (x := 0) (v := 0) (q := 127) dX5_pass_124 fl_X5_121 rfl rfl (by first | assumption | simp [mj_up, mj_upl, mj_row, *]) q3 ?_
      refine mj_iload (i := 7) (q := 129) dX5_pass_127 rfl rfl ?_
      refine mj_isub (q := 130) dX5_pass_129 rfl ?_
      exact mj_ireturn dX5_pass_130 ⟨_, rfl, rfl⟩ ⟨_, rfl, ⟨by decide, _, rfl, q0⟩⟩
    | succ j ih =>
      intro i f1 hi q0 q1 q2 q3
      refine mj_iload (i := 8) (q := 99) dX5_pass_97 rfl rfl ?_
      refine mj_iload_n (i := 1) (q := 100) dX5_pass_99 rfl rfl rfl ?_
      refine mj_icmp_ge (tgt := 120) (q := 103) dX5_pass_100 (by decide) rfl (fun c_100 => absurd c_100 (nI_ge (a := i) (b := N) (by omega) (by omega))) (fun c_100 => ?_)
      refine mj_aload_n (i := 0) (q := 104) dX5_pass_103 rfl rfl rfl ?_
      refine mj_getr (x := 0) (q := 107) dX5_pass_104 fl_X5_10 rfl rfl (by first | assumption | simp [mj_up, mj_upl, mj_row, *]) (by first | assumption | simp [mj_up, mj_upl, mj_row, *]) ?_
      refine mj_aload_n (i := 0) (q := 108) dX5_pass_107 rfl rfl rfl ?_
      refine mj_getr (x := 0) (q := 111) dX5_pass_108 fl_X5_25 rfl rfl (by first | assumption | simp [mj_up, mj_upl, mj_row, *]) (by first | assumption | simp [mj_up, mj_upl, mj_row, *]) ?_
      refine mj_kV1v (K := m_X1_passHour) (q := 114) (mc1 := 0) (ms1 := 0) (mc := 0) (ms := 0) dX5_pass_111 ln_X5_128 ok_X1_passHour (Nat.le_of_ble_eq_true rfl) (by decide) (mj_rc2 (x := 0) (ci := 3) (by first | assumption | simp [mj_up, mj_upl, mj_row, *]) rfl) rfl rfl rfl (s_passHour (m := 3) (w := 144) k2 k9 q1 q2) (fun h1 hq => ?_)
      obtain ⟨f9, rfl, z1, z2⟩ := hq
      refine mj_iinc (i := 8) (q := 117) dX5_pass_114 rfl rfl (by decide) rfl ?_
      dsimp only [List.set]
      refine mj_goto (q := 97) dX5_pass_117 (by decide) ?_
      rw [show nI i + Int32.ofInt 1 = nI (i + 1) from nI_1 i]
      exact ih (i + 1) f9 (by omega) (fun a ha => (z1 a (by omega)).trans (q0 a ha)) ((z2 2 (by decide) (by decide) (by decide)).trans q1) ((z2 3 (by decide) (by decide) (by decide)).trans q2) ((z2 10 (by decide) (by decide) (by decide)).trans q3)
  refine mj_entry (by refine ⟨by decide +kernel, by decide, rfl, Nat.le_of_ble_eq_true rfl⟩) ?_
  show mj_W _ _ _ _ _ 0 [.ref 2, .int (nI N), .int v2, .int v3, .int v4, .int v5, .int v6, .null, .null] [] _
  refine mj_iload_n (i := 1) (q := 1) dX5_pass_0 rfl rfl rfl ?_
  refine mj_num1 (v := 1) (q := 2) rfl dX5_pass_1 rfl ?_
  refine mj_num2 (v := 48) (q := 4) (by decide) dX5_pass_2 rfl ?_
  refine mj_kS3v (K := m_X5_requireWithin) (q := 7) (mc1 := 0) (ms1 := 0) (mc := 0) (ms := 0) dX5_pass_4 ln_X5_29 ok_X5_requireWithin (Nat.le_of_ble_eq_true rfl) (by decide) rfl rfl rfl (s_within h0a h0b) (fun h1 hq => ?_)
  subst hq
  refine mj_iload_n (i := 2) (q := 8) dX5_pass_7 rfl rfl rfl ?_
  refine mj_num2 (v := (-20)) (q := 10) (by decide) dX5_pass_8 rfl ?_
  refine mj_num2 (v := 20) (q := 12) (by decide) dX5_pass_10 rfl ?_
  refine mj_kS3v (K := m_X5_requireWithin) (q := 15) (mc1 := 0) (ms1 := 0) (mc := 0) (ms := 0) dX5_pass_12 ln_X5_29 ok_X5_requireWithin (Nat.le_of_ble_eq_true rfl) (by decide) rfl rfl rfl (s_within h1a h1b) (fun h1 hq => ?_)
  subst hq
  refine mj_iload_n (i := 3) (q := 16) dX5_pass_15 rfl rfl rfl ?_
  refine mj_num1 (v := 0) (q := 17) rfl dX5_pass_16 rfl ?_
  refine mj_num2 (v := 9) (q := 19) (by decide) dX5_pass_17 rfl ?_
  refine mj_kS3v (K := m_X5_requireWithin) (q := 22) (mc1 := 0) (ms1 := 0) (mc := 0) (ms := 0) dX5_pass_19 ln_X5_29 ok_X5_requireWithin (Nat.le_of_ble_eq_true rfl) (by decide) rfl rfl rfl (s_within h2a h2b) (fun h1 hq => ?_)
  subst hq
  refine mj_iload (i := 4) (q := 24) dX5_pass_22 rfl rfl ?_
  refine mj_num1 (v := 0) (q := 25) rfl dX5_pass_24 rfl ?_
  refine mj_num2 (v := 9) (q := 27) (by decide) dX5_pass_25 rfl ?_
  refine mj_kS3v (K := m_X5_requireWithin) (q := 30) (mc1 := 0) (ms1 := 0) (mc := 0) (ms := 0) dX5_pass_27 ln_X5_29 ok_X5_requireWithin (Nat.le_of_ble_eq_true rfl) (by decide) rfl rfl rfl (s_within h3a h3b) (fun h1 hq => ?_)
  subst hq
  refine mj_iload (i := 5) (q := 32) dX5_pass_30 rfl rfl ?_
  refine mj_num1 (v := 0) (q := 33) rfl dX5_pass_32 rfl ?_
  refine mj_num1 (v := 3) (q := 34) rfl dX5_pass_33 rfl ?_
  refine mj_kS3v (K := m_X5_requireWithin) (q := 37) (mc1 := 0) (ms1 := 0) (mc := 0) (ms := 0) dX5_pass_34 ln_X5_29 ok_X5_requireWithin (Nat.le_of_ble_eq_true rfl) (by decide) rfl rfl rfl (s_within h4a h4b) (fun h1 hq => ?_)
  subst hq
  refine mj_iload (i := 6) (q := 39) dX5_pass_37 rfl rfl ?_
  refine mj_num1 (v := 0) (q := 40) rfl dX5_pass_39 rfl ?_
  refine mj_num2 (v := 100) (q := 42) (by decide) dX5_pass_40 rfl ?_
  refine mj_kS3v (K := m_X5_requireWithin) (q := 45) (mc1 := 0) (ms1 := 0) (mc := 0) (ms := 0) dX5_pass_42 ln_X5_29 ok_X5_requireWithin (Nat.le_of_ble_eq_true rfl) (by decide) rfl rfl rfl (s_within h5a h5b) (fun h1 hq => ?_)
  subst hq
  refine mj_aload_n (i := 0) (q := 46) dX5_pass_45 rfl rfl rfl ?_
  refine mj_getr (x := 0) (q := 49) dX5_pass_46 fl_X5_10 rfl rfl (by first | assumption | simp [mj_up, mj_upl, mj_row, *]) (by first | assumption | simp [mj_up, mj_upl, mj_row, *]) ?_
  refine mj_getfv (x := 0) (v := 0) (q := 52) dX5_pass_49 fl_X5_116 rfl rfl (by first | assumption | simp [mj_up, mj_upl, mj_row, *]) (by rw [f2]; rfl) ?_
  refine mj_iload_n (i := 1) (q := 53) dX5_pass_52 rfl rfl rfl ?_
  refine mj_iadd (q := 54) dX5_pass_53 rfl ?_
  refine mj_num3 (v := 9999) (q := 57) (by decide) dX5_pass_54 rfl ?_
  refine mj_icmp_le (tgt := 70) (q := 60) dX5_pass_57 (by decide) rfl (fun c_57 => ?_) (fun c_57 => absurd (by have e9 : (0 : Int32) + nI N = nI N := Int32.zero_add _; rw [e9]; exact Int32.le_trans h0b (by decide)) c_57)
  refine mj_aload_n (i := 0) (q := 71) dX5_pass_70 rfl rfl rfl ?_
  refine mj_getr (x := 0) (q := 74) dX5_pass_71 fl_X5_10 rfl rfl (by first | assumption | simp [mj_up, mj_upl, mj_row, *]) (by first | assumption | simp [mj_up, mj_upl, mj_row, *]) ?_
  refine mj_getfv (x := 0) (v := 0) (q := 77) dX5_pass_74 fl_X5_121 rfl rfl (by first | assumption | simp [mj_up, mj_upl, mj_row, *]) (by rw [f2]; rfl) ?_
  refine mj_istore (i := 7) (q := 79) dX5_pass_77 rfl (by decide) rfl ?_
  dsimp only [List.set]
  refine mj_aload_n (i := 0) (q := 80) dX5_pass_79 rfl rfl rfl ?_
  refine mj_getr (x := 0) (q := 83) dX5_pass_80 fl_X5_25 rfl rfl (by first | assumption | simp [mj_up, mj_upl, mj_row, *]) (by first | assumption | simp [mj_up, mj_upl, mj_row, *]) ?_
  refine mj_iload_n (i := 2) (q := 84) dX5_pass_83 rfl rfl rfl ?_
  refine mj_iload_n (i := 3) (q := 85) dX5_pass_84 rfl rfl rfl ?_
  refine mj_iload (i := 4) (q := 87) dX5_pass_85 rfl rfl ?_
  refine mj_iload (i := 5) (q := 89) dX5_pass_87 rfl rfl ?_
  refine mj_iload (i := 6) (q := 91) dX5_pass_89 rfl rfl ?_
  refine mj_kV5v (K := m_X4_tell) (q := 94) (mc1 := 0) (ms1 := 0) (mc := 0) (ms := 0) dX5_pass_91 ln_X5_124 ok_X4_tell (Nat.le_of_ble_eq_true rfl) (by decide) (mj_rc2 (x := 0) (ci := 6) (by first | assumption | simp [mj_up, mj_upl, mj_row, *]) rfl) rfl rfl rfl (s_tell k9) (fun h1 hq => ?_)
  obtain ⟨f9, rfl, z1⟩ := hq
  refine mj_num1 (v := nI 0) (q := 95) (by decide) dX5_pass_94 rfl ?_
  refine mj_istore (i := 8) (q := 97) dX5_pass_95 rfl (by decide) rfl ?_
  dsimp only [List.set]
  have z2 : f9 3 = v0M := (z1 3 (by decide)).trans f2
  exact loop N 0 f9 (by omega) (fun a ha => z1 a (by omega)) (by rw [z2]; rfl) (by rw [z2]; rfl) (by rw [z2]; rfl)
def v_many (a : Nat) : Int32 := if a = 4 then 500 else if a = 5 then 50 else if a = 6 then 100 else 0
set_option maxHeartbeats 100000 in
set_option maxRecDepth 100000 in
theorem s_many0 {d n : Nat} {K : Nat → mj_K} {f : Nat → Nat → Int32} {g : Nat → Nat → Option Nat} (k1 : K 2 = (2, 7, 0)) (g1 : g 2 0 = some 3) (k2 : K 3 = (2, 3, 0)) (f2 : f 3 = v0M) : mj_Ri m_X5_many (d + 2) 0 0 [.ref 2, .int 0] (n, K, f, g) (fun r h1 => r = v_many 0 ∧ h1 = (n, K, f, g)) := by
  refine mj_entry (by refine ⟨by decide +kernel, by decide, rfl, Nat.le_of_ble_eq_true rfl⟩) ?_
  show mj_W _ _ _ _ _ 0 [.ref 2, .int 0] [] _
  refine mj_iload_n (i := 1) (q := 1) dX5_many_0 rfl rfl rfl ?_
  refine mj_num1 (v := 0) (q := 2) rfl dX5_many_1 rfl ?_
  refine mj_num2 (v := 14) (q := 4) (by decide) dX5_many_2 rfl ?_
  refine mj_kS3v (K := m_X5_requireWithin) (q := 7) (mc1 := 0) (ms1 := 0) (mc := 0) (ms := 0) dX5_many_4 ln_X5_29 ok_X5_requireWithin (Nat.le_of_ble_eq_true rfl) (by decide) rfl rfl rfl (s_within (by decide) (by decide)) (fun h1 hq => ?_)
  subst hq
  refine mj_iload_n (i := 1) (q := 8) dX5_many_7 rfl rfl rfl ?_
  refine mj_tabIn (off := 72) (q := 80) dX5_many_8 (by decide) (by decide) (by decide) (by decide) ?_
  refine mj_aload_n (i := 0) (q := 81) dX5_many_80 rfl rfl rfl ?_
  refine mj_getr (x := 0) (q := 84) dX5_many_81 fl_X5_10 rfl rfl (by first | assumption | simp [mj_up, mj_upl, mj_row, *]) (by first | assumption | simp [mj_up, mj_upl, mj_row, *]) ?_
  refine mj_getfv (x := 0) (v := 0) (q := 87) dX5_many_84 fl_X5_116 rfl rfl (by first | assumption | simp [mj_up, mj_upl, mj_row, *]) (by rw [f2]; rfl) ?_
  exact mj_ireturn dX5_many_87 ⟨_, rfl, rfl⟩ ⟨_, rfl, ⟨rfl, rfl⟩⟩
set_option maxHeartbeats 100000 in
set_option maxRecDepth 100000 in
theorem s_many1 {d n : Nat} {K : Nat → mj_K} {f : Nat → Nat → Int32} {g : Nat → Nat → Option Nat} (k1 : K 2 = (2, 7, 0)) (g1 : g 2 0 = some 3) (k2 : K 3 = (2, 3, 0)) (f2 : f 3 = v0M) : mj_Ri m_X5_many (d + 2) 0 0 [.ref 2, .int 1] (n, K, f, g) (fun r h1 => r = v_many 1 ∧ h1 = (n, K, f, g)) := by
  refine mj_entry (by refine ⟨by decide +kernel, by decide, rfl, Nat.le_of_ble_eq_true rfl⟩) ?_
  show mj_W _ _ _ _ _ 0 [.ref 2, .int 1] [] _
  refine mj_iload_n (i := 1) (q := 1) dX5_many_0 rfl rfl rfl ?_
  refine mj_num1 (v := 0) (q := 2) rfl dX5_many_1 rfl ?_
  refine mj_num2 (v := 14) (q := 4) (by decide) dX5_many_2 rfl ?_
  refine mj_kS3v (K := m_X5_requireWithin) (q := 7) (mc1 := 0) (ms1 := 0) (mc := 0) (ms := 0) dX5_many_4 ln_X5_29 ok_X5_requireWithin (Nat.le_of_ble_eq_true rfl) (by decide) rfl rfl rfl (s_within (by decide) (by decide)) (fun h1 hq => ?_)
  subst hq
  refine mj_iload_n (i := 1) (q := 8) dX5_many_7 rfl rfl rfl ?_
  refine mj_tabIn (off := 80) (q := 88) dX5_many_8 (by decide) (by decide) (by decide) (by decide) ?_
  refine mj_aload_n (i := 0) (q := 89) dX5_many_88 rfl rfl rfl ?_
  refine mj_getr (x := 0) (q := 92) dX5_many_89 fl_X5_10 rfl rfl (by first | assumption | simp [mj_up, mj_upl, mj_row, *]) (by first | assumption | simp [mj_up, mj_upl, mj_row, *]) ?_
  refine mj_getfv (x := 0) (v := 0) (q := 95) dX5_many_92 fl_X5_33 rfl rfl (by first | assumption | simp [mj_up, mj_upl, mj_row, *]) (by rw [f2]; rfl) ?_
  exact mj_ireturn dX5_many_95 ⟨_, rfl, rfl⟩ ⟨_, rfl, ⟨rfl, rfl⟩⟩
set_option maxHeartbeats 100000 in
set_option maxRecDepth 100000 in
theorem s_many2 {d n : Nat} {K : Nat → mj_K} {f : Nat → Nat → Int32} {g : Nat → Nat → Option Nat} (k1 : K 2 = (2, 7, 0)) (g1 : g 2 0 = some 3) (k2 : K 3 = (2, 3, 0)) (f2 : f 3 = v0M) : mj_Ri m_X5_many (d + 2) 0 0 [.ref 2, .int 2] (n, K, f, g) (fun r h1 => r = v_many 2 ∧ h1 = (n, K, f, g)) := by
  refine mj_entry (by refine ⟨by decide +kernel, by decide, rfl, Nat.le_of_ble_eq_true rfl⟩) ?_
  show mj_W _ _ _ _ _ 0 [.ref 2, .int 2] [] _
  refine mj_iload_n (i := 1) (q := 1) dX5_many_0 rfl rfl rfl ?_
  refine mj_num1 (v := 0) (q := 2) rfl dX5_many_1 rfl ?_
  refine mj_num2 (v := 14) (q := 4) (by decide) dX5_many_2 rfl ?_
  refine mj_kS3v (K := m_X5_requireWithin) (q := 7) (mc1 := 0) (ms1 := 0) (mc := 0) (ms := 0) dX5_many_4 ln_X5_29 ok_X5_requireWithin (Nat.le_of_ble_eq_true rfl) (by decide) rfl rfl rfl (s_within (by decide) (by decide)) (fun h1 hq => ?_)
  subst hq
  refine mj_iload_n (i := 1) (q := 8) dX5_many_7 rfl rfl rfl ?_
  refine mj_tabIn (off := 88) (q := 96) dX5_many_8 (by decide) (by decide) (by decide) (by decide) ?_
  refine mj_aload_n (i := 0) (q := 97) dX5_many_96 rfl rfl rfl ?_
  refine mj_getr (x := 0) (q := 100) dX5_many_97 fl_X5_10 rfl rfl (by first | assumption | simp [mj_up, mj_upl, mj_row, *]) (by first | assumption | simp [mj_up, mj_upl, mj_row, *]) ?_
  refine mj_getfv (x := 0) (v := 0) (q := 103) dX5_many_100 fl_X5_60 rfl rfl (by first | assumption | simp [mj_up, mj_upl, mj_row, *]) (by rw [f2]; rfl) ?_
  exact mj_ireturn dX5_many_103 ⟨_, rfl, rfl⟩ ⟨_, rfl, ⟨rfl, rfl⟩⟩
set_option maxHeartbeats 100000 in
set_option maxRecDepth 100000 in
theorem s_many3 {d n : Nat} {K : Nat → mj_K} {f : Nat → Nat → Int32} {g : Nat → Nat → Option Nat} (k1 : K 2 = (2, 7, 0)) (g1 : g 2 0 = some 3) (k2 : K 3 = (2, 3, 0)) (f2 : f 3 = v0M) : mj_Ri m_X5_many (d + 2) 0 0 [.ref 2, .int 3] (n, K, f, g) (fun r h1 => r = v_many 3 ∧ h1 = (n, K, f, g)) := by
  refine mj_entry (by refine ⟨by decide +kernel, by decide, rfl, Nat.le_of_ble_eq_true rfl⟩) ?_
  show mj_W _ _ _ _ _ 0 [.ref 2, .int 3] [] _
  refine mj_iload_n (i := 1) (q := 1) dX5_many_0 rfl rfl rfl ?_
  refine mj_num1 (v := 0) (q := 2) rfl dX5_many_1 rfl ?_
  refine mj_num2 (v := 14) (q := 4) (by decide) dX5_many_2 rfl ?_
  refine mj_kS3v (K := m_X5_requireWithin) (q := 7) (mc1 := 0) (ms1 := 0) (mc := 0) (ms := 0) dX5_many_4 ln_X5_29 ok_X5_requireWithin (Nat.le_of_ble_eq_true rfl) (by decide) rfl rfl rfl (s_within (by decide) (by decide)) (fun h1 hq => ?_)
  subst hq
  refine mj_iload_n (i := 1) (q := 8) dX5_many_7 rfl rfl rfl ?_
  refine mj_tabIn (off := 96) (q := 104) dX5_many_8 (by decide) (by decide) (by decide) (by decide) ?_
  refine mj_aload_n (i := 0) (q := 105) dX5_many_104 rfl rfl rfl ?_
  refine mj_getr (x := 0) (q := 108) dX5_many_105 fl_X5_10 rfl rfl (by first | assumption | simp [mj_up, mj_upl, mj_row, *]) (by first | assumption | simp [mj_up, mj_upl, mj_row, *]) ?_
  refine mj_kV0i (K := m_X1_openRuns) (q := 111) (mc1 := 0) (ms1 := 0) (mc := 0) (ms := 0) dX5_many_108 ln_X5_248 ok_X1_openRuns (Nat.le_of_ble_eq_true rfl) (by decide) (mj_rc2 (x := 0) (ci := 3) (by first | assumption | simp [mj_up, mj_upl, mj_row, *]) rfl) rfl rfl rfl (s_openRuns k2 (by rw [f2]; rfl)) (fun r_108 h1 hq => ?_)
  obtain ⟨rfl, rfl⟩ := hq
  exact mj_ireturn dX5_many_111 ⟨_, rfl, rfl⟩ ⟨_, rfl, ⟨rfl, rfl⟩⟩
set_option maxHeartbeats 100000 in
set_option maxRecDepth 100000 in
theorem s_many4 {d n : Nat} {K : Nat → mj_K} {f : Nat → Nat → Int32} {g : Nat → Nat → Option Nat} (k1 : K 2 = (2, 7, 0)) (g1 : g 2 0 = some 3) (k2 : K 3 = (2, 3, 0)) (f2 : f 3 = v0M) : mj_Ri m_X5_many (d + 2) 0 0 [.ref 2, .int 4] (n, K, f, g) (fun r h1 => r = v_many 4 ∧ h1 = (n, K, f, g)) := by
  refine mj_entry (by refine ⟨by decide +kernel, by decide, rfl, Nat.le_of_ble_eq_true rfl⟩) ?_
  show mj_W _ _ _ _ _ 0 [.ref 2, .int 4] [] _
  refine mj_iload_n (i := 1) (q := 1) dX5_many_0 rfl rfl rfl ?_
  refine mj_num1 (v := 0) (q := 2) rfl dX5_many_1 rfl ?_
  refine mj_num2 (v := 14) (q := 4) (by decide) dX5_many_2 rfl ?_
  refine mj_kS3v (K := m_X5_requireWithin) (q := 7) (mc1 := 0) (ms1 := 0) (mc := 0) (ms := 0) dX5_many_4 ln_X5_29 ok_X5_requireWithin (Nat.le_of_ble_eq_true rfl) (by decide) rfl rfl rfl (s_within (by decide) (by decide)) (fun h1 hq => ?_)
  subst hq
  refine mj_iload_n (i := 1) (q := 8) dX5_many_7 rfl rfl rfl ?_
  refine mj_tabIn (off := 104) (q := 112) dX5_many_8 (by decide) (by decide) (by decide) (by decide) ?_
  refine mj_aload_n (i := 0) (q := 113) dX5_many_112 rfl rfl rfl ?_
  refine mj_getr (x := 0) (q := 116) dX5_many_113 fl_X5_10 rfl rfl (by first | assumption | simp [mj_up, mj_upl, mj_row, *]) (by first | assumption | simp [mj_up, mj_upl, mj_row, *]) ?_
  refine mj_getfv (x := 0) (v := 500) (q := 119) dX5_many_116 fl_X5_104 rfl rfl (by first | assumption | simp [mj_up, mj_upl, mj_row, *]) (by rw [f2]; rfl) ?_
  exact mj_ireturn dX5_many_119 ⟨_, rfl, rfl⟩ ⟨_, rfl, ⟨rfl, rfl⟩⟩
set_option maxHeartbeats 100000 in
set_option maxRecDepth 100000 in
theorem s_many5 {d n : Nat} {K : Nat → mj_K} {f : Nat → Nat → Int32} {g : Nat → Nat → Option Nat} (k1 : K 2 = (2, 7, 0)) (g1 : g 2 0 = some 3) (k2 : K 3 = (2, 3, 0)) (f2 : f 3 = v0M) : mj_Ri m_X5_many (d + 2) 0 0 [.ref 2, .int 5] (n, K, f, g) (fun r h1 => r = v_many 5 ∧ h1 = (n, K, f, g)) := by
  refine mj_entry (by refine ⟨by decide +kernel, by decide, rfl, Nat.le_of_ble_eq_true rfl⟩) ?_
  show mj_W _ _ _ _ _ 0 [.ref 2, .int 5] [] _
  refine mj_iload_n (i := 1) (q := 1) dX5_many_0 rfl rfl rfl ?_
  refine mj_num1 (v := 0) (q := 2) rfl dX5_many_1 rfl ?_
  refine mj_num2 (v := 14) (q := 4) (by decide) dX5_many_2 rfl ?_
  refine mj_kS3v (K := m_X5_requireWithin) (q := 7) (mc1 := 0) (ms1 := 0) (mc := 0) (ms := 0) dX5_many_4 ln_X5_29 ok_X5_requireWithin (Nat.le_of_ble_eq_true rfl) (by decide) rfl rfl rfl (s_within (by decide) (by decide)) (fun h1 hq => ?_)
  subst hq
  refine mj_iload_n (i := 1) (q := 8) dX5_many_7 rfl rfl rfl ?_
  refine mj_tabIn (off := 112) (q := 120) dX5_many_8 (by decide) (by decide) (by decide) (by decide) ?_
  refine mj_aload_n (i := 0) (q := 121) dX5_many_120 rfl rfl rfl ?_
  refine mj_getr (x := 0) (q := 124) dX5_many_121 fl_X5_10 rfl rfl (by first | assumption | simp [mj_up, mj_upl, mj_row, *]) (by first | assumption | simp [mj_up, mj_upl, mj_row, *]) ?_
  refine mj_getfv (x := 0) (v := 50) (q := 127) dX5_many_124 fl_X5_135 rfl rfl (by first | assumption | simp [mj_up, mj_upl, mj_row, *]) (by rw [f2]; rfl) ?_
  exact mj_ireturn dX5_many_127 ⟨_, rfl, rfl⟩ ⟨_, rfl, ⟨rfl, rfl⟩⟩
set_option maxHeartbeats 100000 in
set_option maxRecDepth 100000 in
theorem s_many6 {d n : Nat} {K : Nat → mj_K} {f : Nat → Nat → Int32} {g : Nat → Nat → Option Nat} (k1 : K 2 = (2, 7, 0)) (g1 : g 2 0 = some 3) (k2 : K 3 = (2, 3, 0)) (f2 : f 3 = v0M) : mj_Ri m_X5_many (d + 2) 0 0 [.ref 2, .int 6] (n, K, f, g) (fun r h1 => r = v_many 6 ∧ h1 = (n, K, f, g)) := by
  refine mj_entry (by refine ⟨by decide +kernel, by decide, rfl, Nat.le_of_ble_eq_true rfl⟩) ?_
  show mj_W _ _ _ _ _ 0 [.ref 2, .int 6] [] _
  refine mj_iload_n (i := 1) (q := 1) dX5_many_0 rfl rfl rfl ?_
  refine mj_num1 (v := 0) (q := 2) rfl dX5_many_1 rfl ?_
  refine mj_num2 (v := 14) (q := 4) (by decide) dX5_many_2 rfl ?_
  refine mj_kS3v (K := m_X5_requireWithin) (q := 7) (mc1 := 0) (ms1 := 0) (mc := 0) (ms := 0) dX5_many_4 ln_X5_29 ok_X5_requireWithin (Nat.le_of_ble_eq_true rfl) (by decide) rfl rfl rfl (s_within (by decide) (by decide)) (fun h1 hq => ?_)
  subst hq
  refine mj_iload_n (i := 1) (q := 8) dX5_many_7 rfl rfl rfl ?_
  refine mj_tabIn (off := 120) (q := 128) dX5_many_8 (by decide) (by decide) (by decide) (by decide) ?_
  refine mj_aload_n (i := 0) (q := 129) dX5_many_128 rfl rfl rfl ?_
  refine mj_getr (x := 0) (q := 132) dX5_many_129 fl_X5_10 rfl rfl (by first | assumption | simp [mj_up, mj_upl, mj_row, *]) (by first | assumption | simp [mj_up, mj_upl, mj_row, *]) ?_
  refine mj_getfv (x := 0) (v := 100) (q := 135) dX5_many_132 fl_X5_183 rfl rfl (by first | assumption | simp [mj_up, mj_upl, mj_row, *]) (by rw [f2]; rfl) ?_
  exact mj_ireturn dX5_many_135 ⟨_, rfl, rfl⟩ ⟨_, rfl, ⟨rfl, rfl⟩⟩
set_option maxHeartbeats 100000 in
set_option maxRecDepth 100000 in
theorem s_many7 {d n : Nat} {K : Nat → mj_K} {f : Nat → Nat → Int32} {g : Nat → Nat → Option Nat} (k1 : K 2 = (2, 7, 0)) (g1 : g 2 0 = some 3) (k2 : K 3 = (2, 3, 0)) (f2 : f 3 = v0M) : mj_Ri m_X5_many (d + 2) 0 0 [.ref 2, .int 7] (n, K, f, g) (fun r h1 => r = v_many 7 ∧ h1 = (n, K, f, g)) := by
  refine mj_entry (by refine ⟨by decide +kernel, by decide, rfl, Nat.le_of_ble_eq_true rfl⟩) ?_
  show mj_W _ _ _ _ _ 0 [.ref 2, .int 7] [] _
  refine mj_iload_n (i := 1) (q := 1) dX5_many_0 rfl rfl rfl ?_
  refine mj_num1 (v := 0) (q := 2) rfl dX5_many_1 rfl ?_
  refine mj_num2 (v := 14) (q := 4) (by decide) dX5_many_2 rfl ?_
  refine mj_kS3v (K := m_X5_requireWithin) (q := 7) (mc1 := 0) (ms1 := 0) (mc := 0) (ms := 0) dX5_many_4 ln_X5_29 ok_X5_requireWithin (Nat.le_of_ble_eq_true rfl) (by decide) rfl rfl rfl (s_within (by decide) (by decide)) (fun h1 hq => ?_)
  subst hq
  refine mj_iload_n (i := 1) (q := 8) dX5_many_7 rfl rfl rfl ?_
  refine mj_tabIn (off := 128) (q := 136) dX5_many_8 (by decide) (by decide) (by decide) (by decide) ?_
  refine mj_aload_n (i := 0) (q := 137) dX5_many_136 rfl rfl rfl ?_
  refine mj_getr (x := 0) (q := 140) dX5_many_137 fl_X5_10 rfl rfl (by first | assumption | simp [mj_up, mj_upl, mj_row, *]) (by first | assumption | simp [mj_up, mj_upl, mj_row, *]) ?_
  refine mj_getfv (x := 0) (v := 0) (q := 143) dX5_many_140 fl_X5_113 rfl rfl (by first | assumption | simp [mj_up, mj_upl, mj_row, *]) (by rw [f2]; rfl) ?_
  exact mj_ireturn dX5_many_143 ⟨_, rfl, rfl⟩ ⟨_, rfl, ⟨rfl, rfl⟩⟩
set_option maxHeartbeats 100000 in
set_option maxRecDepth 100000 in
theorem s_many8 {d n : Nat} {K : Nat → mj_K} {f : Nat → Nat → Int32} {g : Nat → Nat → Option Nat} (k1 : K 2 = (2, 7, 0)) (g1 : g 2 0 = some 3) (k2 : K 3 = (2, 3, 0)) (f2 : f 3 = v0M) : mj_Ri m_X5_many (d + 2) 0 0 [.ref 2, .int 8] (n, K, f, g) (fun r h1 => r = v_many 8 ∧ h1 = (n, K, f, g)) := by
  refine mj_entry (by refine ⟨by decide +kernel, by decide, rfl, Nat.le_of_ble_eq_true rfl⟩) ?_
  show mj_W _ _ _ _ _ 0 [.ref 2, .int 8] [] _
  refine mj_iload_n (i := 1) (q := 1) dX5_many_0 rfl rfl rfl ?_
  refine mj_num1 (v := 0) (q := 2) rfl dX5_many_1 rfl ?_
  refine mj_num2 (v := 14) (q := 4) (by decide) dX5_many_2 rfl ?_
  refine mj_kS3v (K := m_X5_requireWithin) (q := 7) (mc1 := 0) (ms1 := 0) (mc := 0) (ms := 0) dX5_many_4 ln_X5_29 ok_X5_requireWithin (Nat.le_of_ble_eq_true rfl) (by decide) rfl rfl rfl (s_within (by decide) (by decide)) (fun h1 hq => ?_)
  subst hq
  refine mj_iload_n (i := 1) (q := 8) dX5_many_7 rfl rfl rfl ?_
  refine mj_tabIn (off := 136) (q := 144) dX5_many_8 (by decide) (by decide) (by decide) (by decide) ?_
  refine mj_aload_n (i := 0) (q := 145) dX5_many_144 rfl rfl rfl ?_
  refine mj_getr (x := 0) (q := 148) dX5_many_145 fl_X5_10 rfl rfl (by first | assumption | simp [mj_up, mj_upl, mj_row, *]) (by first | assumption | simp [mj_up, mj_upl, mj_row, *]) ?_
  refine mj_getfv (x := 0) (v := 0) (q := 151) dX5_many_148 fl_X5_121 rfl rfl (by first | assumption | simp [mj_up, mj_upl, mj_row, *]) (by rw [f2]; rfl) ?_
  exact mj_ireturn dX5_many_151 ⟨_, rfl, rfl⟩ ⟨_, rfl, ⟨rfl, rfl⟩⟩
set_option maxHeartbeats 100000 in
set_option maxRecDepth 100000 in
theorem s_many9 {d n : Nat} {K : Nat → mj_K} {f : Nat → Nat → Int32} {g : Nat → Nat → Option Nat} (k1 : K 2 = (2, 7, 0)) (g1 : g 2 0 = some 3) (k2 : K 3 = (2, 3, 0)) (f2 : f 3 = v0M) : mj_Ri m_X5_many (d + 2) 0 0 [.ref 2, .int 9] (n, K, f, g) (fun r h1 => r = v_many 9 ∧ h1 = (n, K, f, g)) := by
  refine mj_entry (by refine ⟨by decide +kernel, by decide, rfl, Nat.le_of_ble_eq_true rfl⟩) ?_
  show mj_W _ _ _ _ _ 0 [.ref 2, .int 9] [] _
  refine mj_iload_n (i := 1) (q := 1) dX5_many_0 rfl rfl rfl ?_
  refine mj_num1 (v := 0) (q := 2) rfl dX5_many_1 rfl ?_
  refine mj_num2 (v := 14) (q := 4) (by decide) dX5_many_2 rfl ?_
  refine mj_kS3v (K := m_X5_requireWithin) (q := 7) (mc1 := 0) (ms1 := 0) (mc := 0) (ms := 0) dX5_many_4 ln_X5_29 ok_X5_requireWithin (Nat.le_of_ble_eq_true rfl) (by decide) rfl rfl rfl (s_within (by decide) (by decide)) (fun h1 hq => ?_)
  subst hq
  refine mj_iload_n (i := 1) (q := 8) dX5_many_7 rfl rfl rfl ?_
  refine mj_tabIn (off := 144) (q := 152) dX5_many_8 (by decide) (by decide) (by decide) (by decide) ?_
  refine mj_aload_n (i := 0) (q := 153) dX5_many_152 rfl rfl rfl ?_
  refine mj_getr (x := 0) (q := 156) dX5_many_153 fl_X5_10 rfl rfl (by first | assumption | simp [mj_up, mj_upl, mj_row, *]) (by first | assumption | simp [mj_up, mj_upl, mj_row, *]) ?_
  refine mj_getfv (x := 0) (v := 0) (q := 159) dX5_many_156 fl_X5_251 rfl rfl (by first | assumption | simp [mj_up, mj_upl, mj_row, *]) (by rw [f2]; rfl) ?_
  exact mj_ireturn dX5_many_159 ⟨_, rfl, rfl⟩ ⟨_, rfl, ⟨rfl, rfl⟩⟩
set_option maxHeartbeats 100000 in
set_option maxRecDepth 100000 in
theorem s_many10 {d n : Nat} {K : Nat → mj_K} {f : Nat → Nat → Int32} {g : Nat → Nat → Option Nat} (k1 : K 2 = (2, 7, 0)) (g1 : g 2 0 = some 3) (k2 : K 3 = (2, 3, 0)) (f2 : f 3 = v0M) : mj_Ri m_X5_many (d + 2) 0 0 [.ref 2, .int 10] (n, K, f, g) (fun r h1 => r = v_many 10 ∧ h1 = (n, K, f, g)) := by
  refine mj_entry (by refine ⟨by decide +kernel, by decide, rfl, Nat.le_of_ble_eq_true rfl⟩) ?_
  show mj_W _ _ _ _ _ 0 [.ref 2, .int 10] [] _
  refine mj_iload_n (i := 1) (q := 1) dX5_many_0 rfl rfl rfl ?_
  refine mj_num1 (v := 0) (q := 2) rfl dX5_many_1 rfl ?_
  refine mj_num2 (v := 14) (q := 4) (by decide) dX5_many_2 rfl ?_
  refine mj_kS3v (K := m_X5_requireWithin) (q := 7) (mc1 := 0) (ms1 := 0) (mc := 0) (ms := 0) dX5_many_4 ln_X5_29 ok_X5_requireWithin (Nat.le_of_ble_eq_true rfl) (by decide) rfl rfl rfl (s_within (by decide) (by decide)) (fun h1 hq => ?_)
  subst hq
  refine mj_iload_n (i := 1) (q := 8) dX5_many_7 rfl rfl rfl ?_
  refine mj_tabIn (off := 152) (q := 160) dX5_many_8 (by decide) (by decide) (by decide) (by decide) ?_
  refine mj_aload_n (i := 0) (q := 161) dX5_many_160 rfl rfl rfl ?_
  refine mj_getr (x := 0) (q := 164) dX5_many_161 fl_X5_10 rfl rfl (by first | assumption | simp [mj_up, mj_upl, mj_row, *]) (by first | assumption | simp [mj_up, mj_upl, mj_row, *]) ?_
  refine mj_getfv (x := 0) (v := 0) (q := 167) dX5_many_164 fl_X5_254 rfl rfl (by first | assumption | simp [mj_up, mj_upl, mj_row, *]) (by rw [f2]; rfl) ?_
  exact mj_ireturn dX5_many_167 ⟨_, rfl, rfl⟩ ⟨_, rfl, ⟨rfl, rfl⟩⟩
set_option maxHeartbeats 100000 in
set_option maxRecDepth 100000 in
theorem s_many11 {d n : Nat} {K : Nat → mj_K} {f : Nat → Nat → Int32} {g : Nat → Nat → Option Nat} (k1 : K 2 = (2, 7, 0)) (g1 : g 2 0 = some 3) (k2 : K 3 = (2, 3, 0)) (f2 : f 3 = v0M) : mj_Ri m_X5_many (d + 2) 0 0 [.ref 2, .int 11] (n, K, f, g) (fun r h1 => r = v_many 11 ∧ h1 = (n, K, f, g)) := by
  refine mj_entry (by refine ⟨by decide +kernel, by decide, rfl, Nat.le_of_ble_eq_true rfl⟩) ?_
  show mj_W _ _ _ _ _ 0 [.ref 2, .int 11] [] _
  refine mj_iload_n (i := 1) (q := 1) dX5_many_0 rfl rfl rfl ?_
  refine mj_num1 (v := 0) (q := 2) rfl dX5_many_1 rfl ?_
  refine mj_num2 (v := 14) (q := 4) (by decide) dX5_many_2 rfl ?_
  refine mj_kS3v (K := m_X5_requireWithin) (q := 7) (mc1 := 0) (ms1 := 0) (mc := 0) (ms := 0) dX5_many_4 ln_X5_29 ok_X5_requireWithin (Nat.le_of_ble_eq_true rfl) (by decide) rfl rfl rfl (s_within (by decide) (by decide)) (fun h1 hq => ?_)
  subst hq
  refine mj_iload_n (i := 1) (q := 8) dX5_many_7 rfl rfl rfl ?_
  refine mj_tabIn (off := 160) (q := 168) dX5_many_8 (by decide) (by decide) (by decide) (by decide) ?_
  refine mj_aload_n (i := 0) (q := 169) dX5_many_168 rfl rfl rfl ?_
  refine mj_getr (x := 0) (q := 172) dX5_many_169 fl_X5_10 rfl rfl (by first | assumption | simp [mj_up, mj_upl, mj_row, *]) (by first | assumption | simp [mj_up, mj_upl, mj_row, *]) ?_
  refine mj_getfv (x := 0) (v := 0) (q := 175) dX5_many_172 fl_X5_257 rfl rfl (by first | assumption | simp [mj_up, mj_upl, mj_row, *]) (by rw [f2]; rfl) ?_
  exact mj_ireturn dX5_many_175 ⟨_, rfl, rfl⟩ ⟨_, rfl, ⟨rfl, rfl⟩⟩
set_option maxHeartbeats 100000 in
set_option maxRecDepth 100000 in
theorem s_many12 {d n : Nat} {K : Nat → mj_K} {f : Nat → Nat → Int32} {g : Nat → Nat → Option Nat} (k1 : K 2 = (2, 7, 0)) (g1 : g 2 0 = some 3) (k2 : K 3 = (2, 3, 0)) (f2 : f 3 = v0M) : mj_Ri m_X5_many (d + 2) 0 0 [.ref 2, .int 12] (n, K, f, g) (fun r h1 => r = v_many 12 ∧ h1 = (n, K, f, g)) := by
  refine mj_entry (by refine ⟨by decide +kernel, by decide, rfl, Nat.le_of_ble_eq_true rfl⟩) ?_
  show mj_W _ _ _ _ _ 0 [.ref 2, .int 12] [] _
  refine mj_iload_n (i := 1) (q := 1) dX5_many_0 rfl rfl rfl ?_
  refine mj_num1 (v := 0) (q := 2) rfl dX5_many_1 rfl ?_
  refine mj_num2 (v := 14) (q := 4) (by decide) dX5_many_2 rfl ?_
  refine mj_kS3v (K := m_X5_requireWithin) (q := 7) (mc1 := 0) (ms1 := 0) (mc := 0) (ms := 0) dX5_many_4 ln_X5_29 ok_X5_requireWithin (Nat.le_of_ble_eq_true rfl) (by decide) rfl rfl rfl (s_within (by decide) (by decide)) (fun h1 hq => ?_)
  subst hq
  refine mj_iload_n (i := 1) (q := 8) dX5_many_7 rfl rfl rfl ?_
  refine mj_tabIn (off := 168) (q := 176) dX5_many_8 (by decide) (by decide) (by decide) (by decide) ?_
  refine mj_aload_n (i := 0) (q := 177) dX5_many_176 rfl rfl rfl ?_
  refine mj_getr (x := 0) (q := 180) dX5_many_177 fl_X5_10 rfl rfl (by first | assumption | simp [mj_up, mj_upl, mj_row, *]) (by first | assumption | simp [mj_up, mj_upl, mj_row, *]) ?_
  refine mj_getfv (x := 0) (v := 0) (q := 183) dX5_many_180 fl_X5_260 rfl rfl (by first | assumption | simp [mj_up, mj_upl, mj_row, *]) (by rw [f2]; rfl) ?_
  exact mj_ireturn dX5_many_183 ⟨_, rfl, rfl⟩ ⟨_, rfl, ⟨rfl, rfl⟩⟩
set_option maxHeartbeats 100000 in
set_option maxRecDepth 100000 in
theorem s_many13 {d n : Nat} {K : Nat → mj_K} {f : Nat → Nat → Int32} {g : Nat → Nat → Option Nat} (k1 : K 2 = (2, 7, 0)) (g1 : g 2 0 = some 3) (k2 : K 3 = (2, 3, 0)) (f2 : f 3 = v0M) : mj_Ri m_X5_many (d + 2) 0 0 [.ref 2, .int 13] (n, K, f, g) (fun r h1 => r = v_many 13 ∧ h1 = (n, K, f, g)) := by
  refine mj_entry (by refine ⟨by decide +kernel, by decide, rfl, Nat.le_of_ble_eq_true rfl⟩) ?_
  show mj_W _ _ _ _ _ 0 [.ref 2, .int 13] [] _
  refine mj_iload_n (i := 1) (q := 1) dX5_many_0 rfl rfl rfl ?_
  refine mj_num1 (v := 0) (q := 2) rfl dX5_many_1 rfl ?_
  refine mj_num2 (v := 14) (q := 4) (by decide) dX5_many_2 rfl ?_
  refine mj_kS3v (K := m_X5_requireWithin) (q := 7) (mc1 := 0) (ms1 := 0) (mc := 0) (ms := 0) dX5_many_4 ln_X5_29 ok_X5_requireWithin (Nat.le_of_ble_eq_true rfl) (by decide) rfl rfl rfl (s_within (by decide) (by decide)) (fun h1 hq => ?_)
  subst hq
  refine mj_iload_n (i := 1) (q := 8) dX5_many_7 rfl rfl rfl ?_
  refine mj_tabIn (off := 176) (q := 184) dX5_many_8 (by decide) (by decide) (by decide) (by decide) ?_
  refine mj_aload_n (i := 0) (q := 185) dX5_many_184 rfl rfl rfl ?_
  refine mj_getr (x := 0) (q := 188) dX5_many_185 fl_X5_10 rfl rfl (by first | assumption | simp [mj_up, mj_upl, mj_row, *]) (by first | assumption | simp [mj_up, mj_upl, mj_row, *]) ?_
  refine mj_getfv (x := 0) (v := 0) (q := 191) dX5_many_188 fl_X5_261 rfl rfl (by first | assumption | simp [mj_up, mj_upl, mj_row, *]) (by rw [f2]; rfl) ?_
  exact mj_ireturn dX5_many_191 ⟨_, rfl, rfl⟩ ⟨_, rfl, ⟨rfl, rfl⟩⟩
set_option maxHeartbeats 100000 in
set_option maxRecDepth 100000 in
theorem s_many14 {d n : Nat} {K : Nat → mj_K} {f : Nat → Nat → Int32} {g : Nat → Nat → Option Nat} (k1 : K 2 = (2, 7, 0)) (g1 : g 2 0 = some 3) (k2 : K 3 = (2, 3, 0)) (f2 : f 3 = v0M) : mj_Ri m_X5_many (d + 2) 0 0 [.ref 2, .int 14] (n, K, f, g) (fun r h1 => r = v_many 14 ∧ h1 = (n, K, f, g)) := by
  refine mj_entry (by refine ⟨by decide +kernel, by decide, rfl, Nat.le_of_ble_eq_true rfl⟩) ?_
  show mj_W _ _ _ _ _ 0 [.ref 2, .int 14] [] _
  refine mj_iload_n (i := 1) (q := 1) dX5_many_0 rfl rfl rfl ?_
  refine mj_num1 (v := 0) (q := 2) rfl dX5_many_1 rfl ?_
  refine mj_num2 (v := 14) (q := 4) (by decide) dX5_many_2 rfl ?_
  refine mj_kS3v (K := m_X5_requireWithin) (q := 7) (mc1 := 0) (ms1 := 0) (mc := 0) (ms := 0) dX5_many_4 ln_X5_29 ok_X5_requireWithin (Nat.le_of_ble_eq_true rfl) (by decide) rfl rfl rfl (s_within (by decide) (by decide)) (fun h1 hq => ?_)
  subst hq
  refine mj_iload_n (i := 1) (q := 8) dX5_many_7 rfl rfl rfl ?_
  refine mj_tabOut (q := 192) dX5_many_8 (by decide) (by decide) ?_
  refine mj_aload_n (i := 0) (q := 193) dX5_many_192 rfl rfl rfl ?_
  refine mj_getr (x := 0) (q := 196) dX5_many_193 fl_X5_10 rfl rfl (by first | assumption | simp [mj_up, mj_upl, mj_row, *]) (by first | assumption | simp [mj_up, mj_upl, mj_row, *]) ?_
  refine mj_kV0i (K := m_X1_depthByArea) (q := 199) (mc1 := 0) (ms1 := 0) (mc := 0) (ms := 0) dX5_many_196 ln_X5_264 ok_X1_depthByArea (Nat.le_of_ble_eq_true rfl) (by decide) (mj_rc2 (x := 0) (ci := 3) (by first | assumption | simp [mj_up, mj_upl, mj_row, *]) rfl) rfl rfl rfl (s_depthByArea k2 (by rw [f2]; rfl)) (fun r_196 h1 hq => ?_)
  obtain ⟨rfl, rfl⟩ := hq
  exact mj_ireturn dX5_many_199 ⟨_, rfl, rfl⟩ ⟨_, rfl, ⟨rfl, rfl⟩⟩
theorem s_many {d n k : Nat} {K : Nat → mj_K} {f : Nat → Nat → Int32} {g : Nat → Nat → Option Nat} (k1 : K 2 = (2, 7, 0)) (g1 : g 2 0 = some 3) (k2 : K 3 = (2, 3, 0)) (f2 : f 3 = v0M) (hk : k < 15) : mj_Ri m_X5_many (d + 2) 0 0 [.ref 2, .int (nI k)] (n, K, f, g) (fun r h1 => r = v_many k ∧ h1 = (n, K, f, g)) := by
  match k, hk with
  | 0, _ => exact s_many0 k1 g1 k2 f2
  | 1, _ => exact s_many1 k1 g1 k2 f2
  | 2, _ => exact s_many2 k1 g1 k2 f2
  | 3, _ => exact s_many3 k1 g1 k2 f2
  | 4, _ => exact s_many4 k1 g1 k2 f2
  | 5, _ => exact s_many5 k1 g1 k2 f2
  | 6, _ => exact s_many6 k1 g1 k2 f2
  | 7, _ => exact s_many7 k1 g1 k2 f2
  | 8, _ => exact s_many8 k1 g1 k2 f2
  | 9, _ => exact s_many9 k1 g1 k2 f2
  | 10, _ => exact s_many10 k1 g1 k2 f2
  | 11, _ => exact s_many11 k1 g1 k2 f2
  | 12, _ => exact s_many12 k1 g1 k2 f2
  | 13, _ => exact s_many13 k1 g1 k2 f2
  | 14, _ => exact s_many14 k1 g1 k2 f2
  | z + 15, h => exact absurd h (by omega)
set_option maxHeartbeats 100000 in
set_option maxRecDepth 100000 in
theorem s_meanDepth {d n : Nat} {K : Nat → mj_K} {f : Nat → Nat → Int32} {g : Nat → Nat → Option Nat} (k1 : K 2 = (2, 7, 0)) (g1 : g 2 0 = some 3) (k2 : K 3 = (2, 3, 0)) (f2 : f 3 = v0M) : mj_Rd m_X5_meanDepth (d + 2) 0 0 [.ref 2] (n, K, f, g) (fun r h1 => r = FP.dconst0 ∧ h1 = (n, K, f, g)) := by
  refine mj_entry (by refine ⟨by decide +kernel, by decide, rfl, Nat.le_of_ble_eq_true rfl⟩) ?_
  show mj_W _ _ _ _ _ 0 [.ref 2, .null] [] _
  refine mj_aload_n (i := 0) (q := 1) dX5_meanDepth_0 rfl rfl rfl ?_
  refine mj_getr (x := 0) (q := 4) dX5_meanDepth_1 fl_X5_10 rfl rfl (by first | assumption | simp [mj_up, mj_upl, mj_row, *]) (by first | assumption | simp [mj_up, mj_upl, mj_row, *]) ?_
  refine mj_kV0i (K := m_X1_wholeArea) (q := 7) (mc1 := 0) (ms1 := 0) (mc := 0) (ms := 0) dX5_meanDepth_4 ln_X5_267 ok_X1_wholeArea (Nat.le_of_ble_eq_true rfl) (by decide) (mj_rc2 (x := 0) (ci := 3) (by first | assumption | simp [mj_up, mj_upl, mj_row, *]) rfl) rfl rfl rfl (s_wholeArea k2 (by rw [f2]; rfl)) (fun r_4 h1 hq => ?_)
  obtain ⟨rfl, rfl⟩ := hq
  refine mj_istore_n (i := 1) (q := 8) dX5_meanDepth_7 rfl rfl (by decide) rfl ?_
  dsimp only [List.set]
  refine mj_iload_n (i := 1) (q := 9) dX5_meanDepth_8 rfl rfl rfl ?_
  refine mj_num1 (v := 1) (q := 10) rfl dX5_meanDepth_9 rfl ?_
  refine mj_icmp_ge (tgt := 17) (q := 13) dX5_meanDepth_10 (by decide) rfl (fun c_10 => absurd c_10 (by decide)) (fun c_10 => ?_)
  refine mj_dconst0 (q := 14) dX5_meanDepth_13 rfl ?_
  refine mj_goto (q := 28) dX5_meanDepth_14 (by decide) ?_
  exact mj_dreturn dX5_meanDepth_28 rfl ⟨_, rfl, ⟨rfl, rfl⟩⟩
set_option maxHeartbeats 100000 in
set_option maxRecDepth 100000 in
theorem s_nextBlast {d n : Nat} {K : Nat → mj_K} {f : Nat → Nat → Int32} {g : Nat → Nat → Option Nat} (k1 : K 2 = (2, 7, 0)) (g1 : g 2 0 = some 3) (k2 : K 3 = (2, 3, 0)) (f2 : f 3 = v0M) : mj_Ri m_X5_nextBlast (d + 1) 0 0 [.ref 2] (n, K, f, g) (fun r h1 => r = -1 ∧ h1 = (n, K, f, g)) := by
  refine mj_entry (by refine ⟨by decide +kernel, by decide, rfl, Nat.le_of_ble_eq_true rfl⟩) ?_
  show mj_W _ _ _ _ _ 0 [.ref 2, .null, .null, .null, .null, .null, .null] [] _
  refine mj_num1 (v := (-1)) (q := 1) rfl dX5_nextBlast_0 rfl ?_
  refine mj_istore_n (i := 1) (q := 2) dX5_nextBlast_1 rfl rfl (by decide) rfl ?_
  dsimp only [List.set]
  refine mj_num1 (v := 0) (q := 3) rfl dX5_nextBlast_2 rfl ?_
  refine mj_istore_n (i := 2) (q := 4) dX5_nextBlast_3 rfl rfl (by decide) rfl ?_
  dsimp only [List.set]
  refine mj_num1 (v := 0) (q := 5) rfl dX5_nextBlast_4 rfl ?_
  refine mj_istore_n (i := 3) (q := 6) dX5_nextBlast_5 rfl rfl (by decide) rfl ?_
  dsimp only [List.set]
  refine mj_iload_n (i := 3) (q := 7) dX5_nextBlast_6 rfl rfl rfl ?_
  refine mj_aload_n (i := 0) (q := 8) dX5_nextBlast_7 rfl rfl rfl ?_
  refine mj_getr (x := 0) (q := 11) dX5_nextBlast_8 fl_X5_10 rfl rfl (by first | assumption | simp [mj_up, mj_upl, mj_row, *]) (by first | assumption | simp [mj_up, mj_upl, mj_row, *]) ?_
  refine mj_getfv (x := 0) (v := 0) (q := 14) dX5_nextBlast_11 fl_X5_60 rfl rfl (by first | assumption | simp [mj_up, mj_upl, mj_row, *]) (by rw [f2]; rfl) ?_
  refine mj_icmp_ge (tgt := 99) (q := 17) dX5_nextBlast_14 (by decide) rfl (fun c_14 => ?_) (fun c_14 => absurd (Int32.le_refl _) c_14)
  refine mj_iload_n (i := 1) (q := 100) dX5_nextBlast_99 rfl rfl rfl ?_
  exact mj_ireturn dX5_nextBlast_100 ⟨_, rfl, rfl⟩ ⟨_, rfl, ⟨rfl, rfl⟩⟩
set_option maxHeartbeats 100000 in
set_option maxRecDepth 100000 in
theorem s_couldOpen {d n : Nat} {K : Nat → mj_K} {f : Nat → Nat → Int32} {g : Nat → Nat → Option Nat} (k1 : K 2 = (2, 7, 0)) (g1 : g 2 0 = some 3) (k2 : K 3 = (2, 3, 0)) (f2 : f 3 = v0M) : mj_Ri m_X5_couldOpen (d + 1) 0 0 [.ref 2] (n, K, f, g) (fun r h1 => r = 0 ∧ h1 = (n, K, f, g)) := by
  refine mj_entry (by refine ⟨by decide +kernel, by decide, rfl, Nat.le_of_ble_eq_true rfl⟩) ?_
  show mj_W _ _ _ _ _ 0 [.ref 2, .null, .null, .null, .null, .null] [] _
  refine mj_num1 (v := 0) (q := 1) rfl dX5_couldOpen_0 rfl ?_
  refine mj_istore_n (i := 1) (q := 2) dX5_couldOpen_1 rfl rfl (by decide) rfl ?_
  dsimp only [List.set]
  refine mj_num1 (v := 0) (q := 3) rfl dX5_couldOpen_2 rfl ?_
  refine mj_istore_n (i := 2) (q := 4) dX5_couldOpen_3 rfl rfl (by decide) rfl ?_
  dsimp only [List.set]
  refine mj_iload_n (i := 2) (q := 5) dX5_couldOpen_4 rfl rfl rfl ?_
  refine mj_aload_n (i := 0) (q := 6) dX5_couldOpen_5 rfl rfl rfl ?_
  refine mj_getr (x := 0) (q := 9) dX5_couldOpen_6 fl_X5_10 rfl rfl (by first | assumption | simp [mj_up, mj_upl, mj_row, *]) (by first | assumption | simp [mj_up, mj_upl, mj_row, *]) ?_
  refine mj_getfv (x := 0) (v := 0) (q := 12) dX5_couldOpen_9 fl_X5_60 rfl rfl (by first | assumption | simp [mj_up, mj_upl, mj_row, *]) (by rw [f2]; rfl) ?_
  refine mj_icmp_ge (tgt := 93) (q := 15) dX5_couldOpen_12 (by decide) rfl (fun c_12 => ?_) (fun c_12 => absurd (Int32.le_refl _) c_12)
  refine mj_iload_n (i := 1) (q := 94) dX5_couldOpen_93 rfl rfl rfl ?_
  exact mj_ireturn dX5_couldOpen_94 ⟨_, rfl, rfl⟩ ⟨_, rfl, ⟨rfl, rfl⟩⟩
def v_sum : Nat → Int64
  | 0 => 58212
  | k + 1 => v_sum k * 31 + (v_many k).toInt64
def v_dig : Int64 := (v_sum 15 * 31 + (-1 : Int32).toInt64) * 31 + (0 : Int32).toInt64
set_option maxHeartbeats 100000 in
set_option maxRecDepth 100000 in
theorem s_digest {d n : Nat} {K : Nat → mj_K} {f : Nat → Nat → Int32} {g : Nat → Nat → Option Nat} (k1 : K 2 = (2, 7, 0)) (g1 : g 2 0 = some 3) (k2 : K 3 = (2, 3, 0)) (f2 : f 3 = v0M) : mj_Rl m_X5_digest (d + 3) 0 0 [.ref 2] (n, K, f, g) (fun r h1 => r = v_dig ∧ h1 = (n, K, f, g)) := by
  have loop : ∀ (j i : Nat), i + j = 15 → mj_W m_X5_digest (d + 3) 0 0 (fun v h1 => ∃ r, v = some (.long r) ∧ (r = v_dig ∧ h1 = (n, K, f, g)), fun _ _ => False) 6 [.ref 2, .long (v_sum i), .null, .int (nI i), .null] [] (n, K, f, g) := by
    intro j
    induction j with
    | zero =>
      intro i hi
      have hi : i = 15 := by omega
      subst hi
      refine mj_iload_n (i := 3) (q := 7) dX5_digest_6 rfl rfl rfl ?_
      refine mj_num2 (v := 14) (q := 9) (by decide) dX5_digest_7 rfl ?_
      refine mj_icmp_gt (tgt := 31) (q := 12) dX5_digest_9 (by decide) rfl (fun c_9 => ?_) (fun c_9 => absurd (by decide) c_9)
      refine mj_num1 (v := 0) (q := 32) rfl dX5_digest_31 rfl ?_
      refine mj_istore_n (i := 3) (q := 33) dX5_digest_32 rfl rfl (by decide) rfl ?_
      dsimp only [List.set]
      refine mj_iload_n (i := 3) (q := 34) dX5_digest_33 rfl rfl rfl ?_
      refine mj_aload_n (i := 0) (q := 35) dX5_digest_34 rfl rfl rfl ?_
      refine mj_getr (x := 0) (q := 38) dX5_digest_35 fl_X5_10 rfl rfl (by first | assumption | simp [mj_up, mj_upl, mj_row, *]) (by first | assumption | simp [mj_up, mj_upl, mj_row, *]) ?_
      refine mj_getfv (x := 0) (v := 0) (q := 41) dX5_digest_38 fl_X5_60 rfl rfl (by first | assumption | simp [mj_up, mj_upl, mj_row, *]) (by rw [f2]; rfl) ?_
      refine mj_icmp_ge (tgt := 125) (q := 44) dX5_digest_41 (by decide) rfl (fun c_41 => ?_) (fun c_41 => absurd (Int32.le_refl _) c_41)
      refine mj_num1 (v := 0) (q := 126) rfl dX5_digest_125 rfl ?_
      refine mj_istore_n (i := 3) (q := 127) dX5_digest_126 rfl rfl (by decide) rfl ?_
      dsimp only [List.set]
      refine mj_iload_n (i := 3) (q := 128) dX5_digest_127 rfl rfl rfl ?_
      refine mj_aload_n (i := 0) (q := 129) dX5_digest_128 rfl rfl rfl ?_
      refine mj_getr (x := 0) (q := 132) dX5_digest_129 fl_X5_10 rfl rfl (by first | assumption | simp [mj_up, mj_upl, mj_row, *]) (by first | assumption | simp [mj_up, mj_upl, mj_row, *]) ?_
      refine mj_getfv (x := 0) (v := 0) (q := 135) dX5_digest_132 fl_X5_33 rfl rfl (by first | assumption | simp [mj_up, mj_upl, mj_row, *]) (by rw [f2]; rfl) ?_
      refine mj_icmp_ge (tgt := 174) (q := 138) dX5_digest_135 (by decide) rfl (fun c_135 => ?_) (fun c_135 => absurd (Int32.le_refl _) c_135)
      refine mj_lload_n (i := 1) (q := 175) dX5_digest_174 rfl rfl rfl ?_
      refine mj_ldc2 (q := 178) dX5_digest_175 ct_X5_292 rfl ?_
      refine mj_lmul (q := 179) dX5_digest_178 rfl ?_
      refine mj_aload_n (i := 0) (q := 180) dX5_digest_179 rfl rfl rfl ?_
      refine mj_kV0i (K := m_X5_nextBlast) (q := 183) (mc1 := 0) (ms1 := 0) (mc := 0) (ms := 0) dX5_digest_180 ln_X5_314 ok_X5_nextBlast (Nat.le_of_ble_eq_true rfl) (by decide) (mj_rc2 (x := 0) (ci := 7) (by first | assumption | simp [mj_up, mj_upl, mj_row, *]) rfl) rfl rfl rfl (s_nextBlast k1 g1 k2 f2) (fun r_180 h1 hq => ?_)
      obtain ⟨rfl, rfl⟩ := hq
      refine mj_i2l (q := 184) dX5_digest_183 rfl ?_
      refine mj_ladd (q := 185) dX5_digest_184 rfl ?_
      refine mj_lstore_n (i := 1) (q := 186) dX5_digest_185 rfl rfl (by decide) rfl ?_
      dsimp only [List.set]
      refine mj_lload_n (i := 1) (q := 187) dX5_digest_186 rfl rfl rfl ?_
      refine mj_ldc2 (q := 190) dX5_digest_187 ct_X5_292 rfl ?_
      refine mj_lmul (q := 191) dX5_digest_190 rfl ?_
      refine mj_aload_n (i := 0) (q := 192) dX5_digest_191 rfl rfl rfl ?_
      refine mj_kV0i (K := m_X5_couldOpen) (q := 195) (mc1 := 0) (ms1 := 0) (mc := 0) (ms := 0) dX5_digest_192 ln_X5_317 ok_X5_couldOpen (Nat.le_of_ble_eq_true rfl) (by decide) (mj_rc2 (x := 0) (ci := 7) (by first | assumption | simp [mj_up, mj_upl, mj_row, *]) rfl) rfl rfl rfl (s_couldOpen k1 g1 k2 f2) (fun r_192 h1 hq => ?_)
      obtain ⟨rfl, rfl⟩ := hq
      refine mj_i2l (q := 196) dX5_digest_195 rfl ?_
      refine mj_ladd (q := 197) dX5_digest_196 rfl ?_
      exact mj_lreturn dX5_digest_197 rfl ⟨_, rfl, ⟨rfl, rfl⟩⟩
    | succ j ih =>
      intro i hi
      refine mj_iload_n (i := 3) (q := 7) dX5_digest_6 rfl rfl rfl ?_
      refine mj_num2 (v := nI 14) (q := 9) (by decide) dX5_digest_7 rfl ?_
      refine mj_icmp_gt (tgt := 31) (q := 12) dX5_digest_9 (by decide) rfl (fun c_9 => absurd (show nI i ≤ nI 14 from nI_le (by omega) (by omega)) (Int32.not_le.mpr c_9)) (fun c_9 => ?_)
      refine mj_lload_n (i := 1) (q := 13) dX5_digest_12 rfl rfl rfl ?_
      refine mj_ldc2 (q := 16) dX5_digest_13 ct_X5_292 rfl ?_
      refine mj_lmul (q := 17) dX5_digest_16 rfl ?_
      refine mj_aload_n (i := 0) (q := 18) dX5_digest_17 rfl rfl rfl ?_
      refine mj_iload_n (i := 3) (q := 19) dX5_digest_18 rfl rfl rfl ?_
      refine mj_kV1i (K := m_X5_many) (q := 22) (mc1 := 0) (ms1 := 0) (mc := 0) (ms := 0) dX5_digest_19 ln_X5_294 ok_X5_many (Nat.le_of_ble_eq_true rfl) (by decide) (mj_rc2 (x := 0) (ci := 7) (by first | assumption | simp [mj_up, mj_upl, mj_row, *]) rfl) rfl rfl rfl (s_many k1 g1 k2 f2 (show i < 15 by omega)) (fun r_19 h1 hq => ?_)
      obtain ⟨rfl, rfl⟩ := hq
      refine mj_i2l (q := 23) dX5_digest_22 rfl ?_
      refine mj_ladd (q := 24) dX5_digest_23 rfl ?_
      refine mj_lstore_n (i := 1) (q := 25) dX5_digest_24 rfl rfl (by decide) rfl ?_
      dsimp only [List.set]
      refine mj_iinc (i := 3) (q := 28) dX5_digest_25 rfl rfl (by decide) rfl ?_
      dsimp only [List.set]
      refine mj_goto (q := 6) dX5_digest_28 (by decide) ?_
      rw [show nI i + Int32.ofInt 1 = nI (i + 1) from nI_1 i]
      exact ih (i + 1) (by omega)
  refine mj_entry (by refine ⟨by decide +kernel, by decide, rfl, Nat.le_of_ble_eq_true rfl⟩) ?_
  show mj_W _ _ _ _ _ 0 [.ref 2, .null, .null, .null, .null] [] _
  refine mj_ldc2 (q := 3) dX5_digest_0 ct_X5_290 rfl ?_
  refine mj_lstore_n (i := 1) (q := 4) dX5_digest_3 rfl rfl (by decide) rfl ?_
  dsimp only [List.set]
  refine mj_num1 (v := nI 0) (q := 5) (by decide) dX5_digest_4 rfl ?_
  refine mj_istore_n (i := 3) (q := 6) dX5_digest_5 rfl rfl (by decide) rfl ?_
  dsimp only [List.set]
  exact loop 15 0 (by omega)
