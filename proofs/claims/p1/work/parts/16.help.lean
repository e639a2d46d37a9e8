/-! THE LAW'S HELPERS: a call of the class, its answer in out, what it threw in a number -/
set_option maxHeartbeats 100000 in
set_option maxRecDepth 100000 in
theorem l_run {d n : Nat} {v1 v2 v3 v4 v5 : Int32} {K : Nat → mj_K} {f : Nat → Nat → Int32} {g : Nat → Nat → Option Nat} (k1 : K 2 = (2, 7, 0)) (g1 : g 2 0 = some 3) (k2 : K 3 = (2, 3, 0)) (f2 : f 3 = v0M) (k149 : K 149 = (4, 1, 0)) : mj_Hi m_L_run (d + 9) 1 6 [.ref 2, .int v1, .int v2, .int v3, .int v4, .int v5, .ref 149] (n, K, f, g) (fun r h1 => r = 1 ∧ h1 = (n, K, f, g)) := by
  refine mj_entryH (by refine ⟨by decide +kernel, by decide, rfl, Nat.le_of_ble_eq_true rfl⟩) ?_
  show mj_W _ _ _ _ _ 0 [.ref 2, .int v1, .int v2, .int v3, .int v4, .int v5, .ref 149, .null] [] _
  refine mj_aload (i := 6) (q := 2) dL_run_0 rfl rfl ?_
  refine mj_num1 (v := 0) (q := 3) rfl dL_run_2 rfl ?_
  refine mj_aload_n (i := 0) (q := 4) dL_run_3 rfl rfl rfl ?_
  refine mj_iload_n (i := 1) (q := 5) dL_run_4 rfl rfl rfl ?_
  refine mj_iload_n (i := 2) (q := 6) dL_run_5 rfl rfl rfl ?_
  refine mj_iload_n (i := 3) (q := 7) dL_run_6 rfl rfl rfl ?_
  refine mj_iload (i := 4) (q := 9) dL_run_7 rfl rfl ?_
  refine mj_iload (i := 5) (q := 11) dL_run_9 rfl rfl ?_
  refine mj_kV5x (K := m_X5_run) (mc1 := 1) (ms1 := 6) (mc := 0) (ms := 0) dL_run_11 ln_L_17 ok_X5_run (Nat.le_of_ble_eq_true rfl) (by decide) (mj_rc2 (x := 0) (ci := 7) (by first | assumption | simp [mj_up, mj_upl, mj_row, *]) rfl) rfl rfl (x_run k1 g1 k2 f2) (fun n1 h1 hq => ?_)
  obtain ⟨rfl, rfl⟩ := hq
  refine mj_T_catch (M := m_L_run) (nx := 1) (hpc := 19) (ct := 21) (i := 7) (q := 21) [] [(0, 16, 23, 13), (0, 16, 27, 15)] 0 16 rfl (by intro z hz; cases hz) (by decide) (by decide) (by decide) cl_L_21 (fun _ z => mj_XW.cast1 z) (Or.inl ⟨dL_run_19, rfl⟩) (by decide) rfl ?_
  dsimp only [List.set]
  refine mj_num1 (v := 1) (q := 22) rfl dL_run_21 rfl ?_
  exact mj_ireturn dL_run_22 ⟨_, rfl, rfl⟩ ⟨_, rfl, ⟨rfl, rfl⟩⟩
set_option maxHeartbeats 100000 in
set_option maxRecDepth 100000 in
theorem l_turn {d n : Nat} {v1 v2 : Int32} {K : Nat → mj_K} {f : Nat → Nat → Int32} {g : Nat → Nat → Option Nat} (k1 : K 2 = (2, 7, 0)) (g1 : g 2 0 = some 3) (k2 : K 3 = (2, 3, 0)) (f2 : f 3 = v0M) (k149 : K 149 = (4, 1, 0)) : mj_Hi m_L_turn (d + 9) 1 6 [.ref 2, .int v1, .int v2, .ref 149] (n, K, f, g) (fun r h1 => r = 1 ∧ h1 = (n, K, f, g)) := by
  refine mj_entryH (by refine ⟨by decide +kernel, by decide, rfl, Nat.le_of_ble_eq_true rfl⟩) ?_
  show mj_W _ _ _ _ _ 0 [.ref 2, .int v1, .int v2, .ref 149, .null] [] _
  refine mj_aload_n (i := 3) (q := 1) dL_turn_0 rfl rfl rfl ?_
  refine mj_num1 (v := 0) (q := 2) rfl dL_turn_1 rfl ?_
  refine mj_aload_n (i := 0) (q := 3) dL_turn_2 rfl rfl rfl ?_
  refine mj_iload_n (i := 1) (q := 4) dL_turn_3 rfl rfl rfl ?_
  refine mj_iload_n (i := 2) (q := 5) dL_turn_4 rfl rfl rfl ?_
  refine mj_kV2x (K := m_X5_turn) (mc1 := 1) (ms1 := 6) (mc := 0) (ms := 0) dL_turn_5 ln_L_23 ok_X5_turn (Nat.le_of_ble_eq_true rfl) (by decide) (mj_rc2 (x := 0) (ci := 7) (by first | assumption | simp [mj_up, mj_upl, mj_row, *]) rfl) rfl rfl (x_turn k1 g1 k2 f2) (fun n1 h1 hq => ?_)
  obtain ⟨rfl, rfl⟩ := hq
  refine mj_T_catch (M := m_L_turn) (nx := 1) (hpc := 20) (ct := 21) (i := 4) (q := 22) [] [] 0 17 rfl (by intro z hz; cases hz) (by decide) (by decide) (by decide) cl_L_21 (fun _ z => mj_XW.cast1 z) (Or.inl ⟨dL_turn_20, rfl⟩) (by decide) rfl ?_
  dsimp only [List.set]
  refine mj_num1 (v := 1) (q := 23) rfl dL_turn_22 rfl ?_
  exact mj_ireturn dL_turn_23 ⟨_, rfl, rfl⟩ ⟨_, rfl, ⟨rfl, rfl⟩⟩
set_option maxHeartbeats 100000 in
set_option maxRecDepth 100000 in
theorem l_release {d n : Nat} {v1 : Int32} {K : Nat → mj_K} {f : Nat → Nat → Int32} {g : Nat → Nat → Option Nat} (k1 : K 2 = (2, 7, 0)) (g1 : g 2 0 = some 3) (k2 : K 3 = (2, 3, 0)) (f2 : f 3 = v0M) (k149 : K 149 = (4, 1, 0)) : mj_Hi m_L_release (d + 9) 1 6 [.ref 2, .int v1, .ref 149] (n, K, f, g) (fun r h1 => r = 1 ∧ h1 = (n, K, f, g)) := by
  refine mj_entryH (by refine ⟨by decide +kernel, by decide, rfl, Nat.le_of_ble_eq_true rfl⟩) ?_
  show mj_W _ _ _ _ _ 0 [.ref 2, .int v1, .ref 149, .null] [] _
  refine mj_aload_n (i := 2) (q := 1) dL_release_0 rfl rfl rfl ?_
  refine mj_num1 (v := 0) (q := 2) rfl dL_release_1 rfl ?_
  refine mj_aload_n (i := 0) (q := 3) dL_release_2 rfl rfl rfl ?_
  refine mj_iload_n (i := 1) (q := 4) dL_release_3 rfl rfl rfl ?_
  refine mj_kV1x (K := m_X5_release) (mc1 := 1) (ms1 := 6) (mc := 0) (ms := 0) dL_release_4 ln_L_27 ok_X5_release (Nat.le_of_ble_eq_true rfl) (by decide) (mj_rc2 (x := 0) (ci := 7) (by first | assumption | simp [mj_up, mj_upl, mj_row, *]) rfl) rfl rfl (x_release k1 g1 k2 f2) (fun n1 h1 hq => ?_)
  obtain ⟨rfl, rfl⟩ := hq
  refine mj_T_catch (M := m_L_release) (nx := 1) (hpc := 19) (ct := 21) (i := 3) (q := 20) [] [(0, 16, 22, 15)] 0 16 rfl (by intro z hz; cases hz) (by decide) (by decide) (by decide) cl_L_21 (fun _ z => mj_XW.cast1 z) (Or.inr ⟨3, dL_release_19, rfl, rfl⟩) (by decide) rfl ?_
  dsimp only [List.set]
  refine mj_num1 (v := 1) (q := 21) rfl dL_release_20 rfl ?_
  exact mj_ireturn dL_release_21 ⟨_, rfl, rfl⟩ ⟨_, rfl, ⟨rfl, rfl⟩⟩
set_option maxHeartbeats 100000 in
set_option maxRecDepth 100000 in
theorem l_guns {d n : Nat} {v1 v2 : Int32} {K : Nat → mj_K} {f : Nat → Nat → Int32} {g : Nat → Nat → Option Nat} (k1 : K 2 = (2, 7, 0)) (g1 : g 2 0 = some 3) (k2 : K 3 = (2, 3, 0)) (f2 : f 3 = v0M) (k149 : K 149 = (4, 1, 0)) : mj_Hi m_L_guns (d + 9) 1 6 [.ref 2, .int v1, .int v2, .ref 149] (n, K, f, g) (fun r h1 => r = 1 ∧ h1 = (n, K, f, g)) := by
  refine mj_entryH (by refine ⟨by decide +kernel, by decide, rfl, Nat.le_of_ble_eq_true rfl⟩) ?_
  show mj_W _ _ _ _ _ 0 [.ref 2, .int v1, .int v2, .ref 149, .null] [] _
  refine mj_aload_n (i := 3) (q := 1) dL_guns_0 rfl rfl rfl ?_
  refine mj_num1 (v := 0) (q := 2) rfl dL_guns_1 rfl ?_
  refine mj_aload_n (i := 0) (q := 3) dL_guns_2 rfl rfl rfl ?_
  refine mj_iload_n (i := 1) (q := 4) dL_guns_3 rfl rfl rfl ?_
  refine mj_iload_n (i := 2) (q := 5) dL_guns_4 rfl rfl rfl ?_
  refine mj_kV2x (K := m_X5_guns) (mc1 := 1) (ms1 := 6) (mc := 0) (ms := 0) dL_guns_5 ln_L_31 ok_X5_guns (Nat.le_of_ble_eq_true rfl) (by decide) (mj_rc2 (x := 0) (ci := 7) (by first | assumption | simp [mj_up, mj_upl, mj_row, *]) rfl) rfl rfl (x_guns k1 g1 k2 f2) (fun n1 h1 hq => ?_)
  obtain ⟨rfl, rfl⟩ := hq
  refine mj_T_catch (M := m_L_guns) (nx := 1) (hpc := 13) (ct := 21) (i := 4) (q := 15) [] [(0, 10, 17, 13)] 0 10 rfl (by intro z hz; cases hz) (by decide) (by decide) (by decide) cl_L_21 (fun _ z => mj_XW.cast1 z) (Or.inl ⟨dL_guns_13, rfl⟩) (by decide) rfl ?_
  dsimp only [List.set]
  refine mj_num1 (v := 1) (q := 16) rfl dL_guns_15 rfl ?_
  exact mj_ireturn dL_guns_16 ⟨_, rfl, rfl⟩ ⟨_, rfl, ⟨rfl, rfl⟩⟩
set_option maxHeartbeats 100000 in
set_option maxRecDepth 100000 in
theorem l_blast {d n : Nat} {v1 : Int32} {K : Nat → mj_K} {f : Nat → Nat → Int32} {g : Nat → Nat → Option Nat} (k1 : K 2 = (2, 7, 0)) (g1 : g 2 0 = some 3) (k2 : K 3 = (2, 3, 0)) (f2 : f 3 = v0M) (k149 : K 149 = (4, 1, 0)) : mj_Hi m_L_blast (d + 9) 1 6 [.ref 2, .int v1, .ref 149] (n, K, f, g) (fun r h1 => r = 1 ∧ h1 = (n, K, f, g)) := by
  refine mj_entryH (by refine ⟨by decide +kernel, by decide, rfl, Nat.le_of_ble_eq_true rfl⟩) ?_
  show mj_W _ _ _ _ _ 0 [.ref 2, .int v1, .ref 149, .null] [] _
  refine mj_aload_n (i := 2) (q := 1) dL_blast_0 rfl rfl rfl ?_
  refine mj_num1 (v := 0) (q := 2) rfl dL_blast_1 rfl ?_
  refine mj_aload_n (i := 0) (q := 3) dL_blast_2 rfl rfl rfl ?_
  refine mj_iload_n (i := 1) (q := 4) dL_blast_3 rfl rfl rfl ?_
  refine mj_kV1x (K := m_X5_blast) (mc1 := 1) (ms1 := 6) (mc := 0) (ms := 0) dL_blast_4 ln_L_45 ok_X5_blast (Nat.le_of_ble_eq_true rfl) (by decide) (mj_rc2 (x := 0) (ci := 7) (by first | assumption | simp [mj_up, mj_upl, mj_row, *]) rfl) rfl rfl (x_blast k1 g1 k2 f2) (fun n1 h1 hq => ?_)
  obtain ⟨rfl, rfl⟩ := hq
  refine mj_T_catch (M := m_L_blast) (nx := 1) (hpc := 12) (ct := 21) (i := 3) (q := 13) [] [(0, 9, 15, 15)] 0 9 rfl (by intro z hz; cases hz) (by decide) (by decide) (by decide) cl_L_21 (fun _ z => mj_XW.cast1 z) (Or.inr ⟨3, dL_blast_12, rfl, rfl⟩) (by decide) rfl ?_
  dsimp only [List.set]
  refine mj_num1 (v := 1) (q := 14) rfl dL_blast_13 rfl ?_
  exact mj_ireturn dL_blast_14 ⟨_, rfl, rfl⟩ ⟨_, rfl, ⟨rfl, rfl⟩⟩
set_option maxHeartbeats 100000 in
set_option maxRecDepth 100000 in
theorem l_search {d n : Nat} {v1 : Int32} {K : Nat → mj_K} {f : Nat → Nat → Int32} {g : Nat → Nat → Option Nat} (k1 : K 2 = (2, 7, 0)) (g1 : g 2 0 = some 3) (k2 : K 3 = (2, 3, 0)) (f2 : f 3 = v0M) (k149 : K 149 = (4, 1, 0)) : mj_Hi m_L_search (d + 9) 1 6 [.ref 2, .int v1, .ref 149] (n, K, f, g) (fun r h1 => r = 1 ∧ h1 = (n, K, f, g)) := by
  refine mj_entryH (by refine ⟨by decide +kernel, by decide, rfl, Nat.le_of_ble_eq_true rfl⟩) ?_
  show mj_W _ _ _ _ _ 0 [.ref 2, .int v1, .ref 149, .null] [] _
  refine mj_aload_n (i := 2) (q := 1) dL_search_0 rfl rfl rfl ?_
  refine mj_num1 (v := 0) (q := 2) rfl dL_search_1 rfl ?_
  refine mj_aload_n (i := 0) (q := 3) dL_search_2 rfl rfl rfl ?_
  refine mj_iload_n (i := 1) (q := 4) dL_search_3 rfl rfl rfl ?_
  refine mj_kV1x (K := m_X5_search) (mc1 := 1) (ms1 := 6) (mc := 0) (ms := 0) dL_search_4 ln_L_48 ok_X5_search (Nat.le_of_ble_eq_true rfl) (by decide) (mj_rc2 (x := 0) (ci := 7) (by first | assumption | simp [mj_up, mj_upl, mj_row, *]) rfl) rfl rfl (x_search k1 g1 k2 f2) (fun n1 h1 hq => ?_)
  obtain ⟨rfl, rfl⟩ := hq
  refine mj_T_catch (M := m_L_search) (nx := 1) (hpc := 12) (ct := 21) (i := 3) (q := 13) [] [(0, 9, 15, 15)] 0 9 rfl (by intro z hz; cases hz) (by decide) (by decide) (by decide) cl_L_21 (fun _ z => mj_XW.cast1 z) (Or.inr ⟨3, dL_search_12, rfl, rfl⟩) (by decide) rfl ?_
  dsimp only [List.set]
  refine mj_num1 (v := 1) (q := 14) rfl dL_search_13 rfl ?_
  exact mj_ireturn dL_search_14 ⟨_, rfl, rfl⟩ ⟨_, rfl, ⟨rfl, rfl⟩⟩
set_option maxHeartbeats 100000 in
set_option maxRecDepth 100000 in
theorem l_test {d n : Nat} {v1 : Int32} {K : Nat → mj_K} {f : Nat → Nat → Int32} {g : Nat → Nat → Option Nat} (k1 : K 2 = (2, 7, 0)) (g1 : g 2 0 = some 3) (k2 : K 3 = (2, 3, 0)) (f2 : f 3 = v0M) (k149 : K 149 = (4, 1, 0)) : mj_Hi m_L_test (d + 9) 1 6 [.ref 2, .int v1, .ref 149] (n, K, f, g) (fun r h1 => r = 1 ∧ h1 = (n, K, f, g)) := by
  refine mj_entryH (by refine ⟨by decide +kernel, by decide, rfl, Nat.le_of_ble_eq_true rfl⟩) ?_
  show mj_W _ _ _ _ _ 0 [.ref 2, .int v1, .ref 149, .null] [] _
  refine mj_aload_n (i := 2) (q := 1) dL_test_0 rfl rfl rfl ?_
  refine mj_num1 (v := 0) (q := 2) rfl dL_test_1 rfl ?_
  refine mj_aload_n (i := 0) (q := 3) dL_test_2 rfl rfl rfl ?_
  refine mj_iload_n (i := 1) (q := 4) dL_test_3 rfl rfl rfl ?_
  refine mj_kV1x (K := m_X5_test) (mc1 := 1) (ms1 := 6) (mc := 0) (ms := 0) dL_test_4 ln_L_51 ok_X5_test (Nat.le_of_ble_eq_true rfl) (by decide) (mj_rc2 (x := 0) (ci := 7) (by first | assumption | simp [mj_up, mj_upl, mj_row, *]) rfl) rfl rfl (x_test k1 g1 k2 f2) (fun n1 h1 hq => ?_)
  obtain ⟨rfl, rfl⟩ := hq
  refine mj_T_catch (M := m_L_test) (nx := 1) (hpc := 12) (ct := 21) (i := 3) (q := 13) [] [] 0 9 rfl (by intro z hz; cases hz) (by decide) (by decide) (by decide) cl_L_21 (fun _ z => mj_XW.cast1 z) (Or.inr ⟨3, dL_test_12, rfl, rfl⟩) (by decide) rfl ?_
  dsimp only [List.set]
  refine mj_num1 (v := 1) (q := 14) rfl dL_test_13 rfl ?_
  exact mj_ireturn dL_test_14 ⟨_, rfl, rfl⟩ ⟨_, rfl, ⟨rfl, rfl⟩⟩
set_option maxHeartbeats 100000 in
set_option maxRecDepth 100000 in
theorem l_sweep {d n : Nat} {v1 : Int32} {K : Nat → mj_K} {f : Nat → Nat → Int32} {g : Nat → Nat → Option Nat} (k1 : K 2 = (2, 7, 0)) (g1 : g 2 0 = some 3) (k2 : K 3 = (2, 3, 0)) (f2 : f 3 = v0M) (k149 : K 149 = (4, 1, 0)) : mj_Hi m_L_sweep (d + 9) 1 6 [.ref 2, .int v1, .ref 149] (n, K, f, g) (fun r h1 => r = 1 ∧ h1 = (n, K, f, g)) := by
  refine mj_entryH (by refine ⟨by decide +kernel, by decide, rfl, Nat.le_of_ble_eq_true rfl⟩) ?_
  show mj_W _ _ _ _ _ 0 [.ref 2, .int v1, .ref 149, .null] [] _
  refine mj_aload_n (i := 2) (q := 1) dL_sweep_0 rfl rfl rfl ?_
  refine mj_num1 (v := 0) (q := 2) rfl dL_sweep_1 rfl ?_
  refine mj_aload_n (i := 0) (q := 3) dL_sweep_2 rfl rfl rfl ?_
  refine mj_iload_n (i := 1) (q := 4) dL_sweep_3 rfl rfl rfl ?_
  refine mj_kV1x (K := m_X5_sweep) (mc1 := 1) (ms1 := 6) (mc := 0) (ms := 0) dL_sweep_4 ln_L_54 ok_X5_sweep (Nat.le_of_ble_eq_true rfl) (by decide) (mj_rc2 (x := 0) (ci := 7) (by first | assumption | simp [mj_up, mj_upl, mj_row, *]) rfl) rfl rfl (x_sweep k1 g1 k2 f2) (fun n1 h1 hq => ?_)
  obtain ⟨rfl, rfl⟩ := hq
  refine mj_T_catch (M := m_L_sweep) (nx := 1) (hpc := 19) (ct := 21) (i := 3) (q := 20) [] [(0, 16, 22, 15)] 0 16 rfl (by intro z hz; cases hz) (by decide) (by decide) (by decide) cl_L_21 (fun _ z => mj_XW.cast1 z) (Or.inr ⟨3, dL_sweep_19, rfl, rfl⟩) (by decide) rfl ?_
  dsimp only [List.set]
  refine mj_num1 (v := 1) (q := 21) rfl dL_sweep_20 rfl ?_
  exact mj_ireturn dL_sweep_21 ⟨_, rfl, rfl⟩ ⟨_, rfl, ⟨rfl, rfl⟩⟩
set_option maxHeartbeats 100000 in
set_option maxRecDepth 100000 in
theorem l_winch {d n : Nat} {v1 v2 : Int32} {K : Nat → mj_K} {f : Nat → Nat → Int32} {g : Nat → Nat → Option Nat} (k1 : K 2 = (2, 7, 0)) (g1 : g 2 0 = some 3) (k2 : K 3 = (2, 3, 0)) (f2 : f 3 = v0M) (k149 : K 149 = (4, 1, 0)) : mj_Hi m_L_winch (d + 9) 1 6 [.ref 2, .int v1, .int v2, .ref 149] (n, K, f, g) (fun r h1 => r = 1 ∧ h1 = (n, K, f, g)) := by
  refine mj_entryH (by refine ⟨by decide +kernel, by decide, rfl, Nat.le_of_ble_eq_true rfl⟩) ?_
  show mj_W _ _ _ _ _ 0 [.ref 2, .int v1, .int v2, .ref 149, .null] [] _
  refine mj_aload_n (i := 3) (q := 1) dL_winch_0 rfl rfl rfl ?_
  refine mj_num1 (v := 0) (q := 2) rfl dL_winch_1 rfl ?_
  refine mj_aload_n (i := 0) (q := 3) dL_winch_2 rfl rfl rfl ?_
  refine mj_iload_n (i := 1) (q := 4) dL_winch_3 rfl rfl rfl ?_
  refine mj_iload_n (i := 2) (q := 5) dL_winch_4 rfl rfl rfl ?_
  refine mj_kV2x (K := m_X5_winch) (mc1 := 1) (ms1 := 6) (mc := 0) (ms := 0) dL_winch_5 ln_L_57 ok_X5_winch (Nat.le_of_ble_eq_true rfl) (by decide) (mj_rc2 (x := 0) (ci := 7) (by first | assumption | simp [mj_up, mj_upl, mj_row, *]) rfl) rfl rfl (x_winch k1 g1 k2 f2) (fun n1 h1 hq => ?_)
  obtain ⟨rfl, rfl⟩ := hq
  refine mj_T_catch (M := m_L_winch) (nx := 1) (hpc := 20) (ct := 21) (i := 4) (q := 22) [] [(0, 17, 24, 15)] 0 17 rfl (by intro z hz; cases hz) (by decide) (by decide) (by decide) cl_L_21 (fun _ z => mj_XW.cast1 z) (Or.inl ⟨dL_winch_20, rfl⟩) (by decide) rfl ?_
  dsimp only [List.set]
  refine mj_num1 (v := 1) (q := 23) rfl dL_winch_22 rfl ?_
  exact mj_ireturn dL_winch_23 ⟨_, rfl, rfl⟩ ⟨_, rfl, ⟨rfl, rfl⟩⟩
set_option maxHeartbeats 100000 in
set_option maxRecDepth 100000 in
theorem l_groom {d n : Nat} {v1 : Int32} {K : Nat → mj_K} {f : Nat → Nat → Int32} {g : Nat → Nat → Option Nat} (k1 : K 2 = (2, 7, 0)) (g1 : g 2 0 = some 3) (k2 : K 3 = (2, 3, 0)) (f2 : f 3 = v0M) (k149 : K 149 = (4, 1, 0)) : mj_Hi m_L_groom (d + 9) 1 6 [.ref 2, .int v1, .ref 149] (n, K, f, g) (fun r h1 => r = 1 ∧ h1 = (n, K, f, g)) := by
  refine mj_entryH (by refine ⟨by decide +kernel, by decide, rfl, Nat.le_of_ble_eq_true rfl⟩) ?_
  show mj_W _ _ _ _ _ 0 [.ref 2, .int v1, .ref 149, .null] [] _
  refine mj_aload_n (i := 2) (q := 1) dL_groom_0 rfl rfl rfl ?_
  refine mj_num1 (v := 0) (q := 2) rfl dL_groom_1 rfl ?_
  refine mj_aload_n (i := 0) (q := 3) dL_groom_2 rfl rfl rfl ?_
  refine mj_iload_n (i := 1) (q := 4) dL_groom_3 rfl rfl rfl ?_
  refine mj_kV1x (K := m_X5_groom) (mc1 := 1) (ms1 := 6) (mc := 0) (ms := 0) dL_groom_4 ln_L_60 ok_X5_groom (Nat.le_of_ble_eq_true rfl) (by decide) (mj_rc2 (x := 0) (ci := 7) (by first | assumption | simp [mj_up, mj_upl, mj_row, *]) rfl) rfl rfl (x_groom k1 g1 k2 f2) (fun n1 h1 hq => ?_)
  obtain ⟨rfl, rfl⟩ := hq
  refine mj_T_catch (M := m_L_groom) (nx := 1) (hpc := 12) (ct := 21) (i := 3) (q := 13) [] [(0, 9, 15, 15)] 0 9 rfl (by intro z hz; cases hz) (by decide) (by decide) (by decide) cl_L_21 (fun _ z => mj_XW.cast1 z) (Or.inr ⟨3, dL_groom_12, rfl, rfl⟩) (by decide) rfl ?_
  dsimp only [List.set]
  refine mj_num1 (v := 1) (q := 14) rfl dL_groom_13 rfl ?_
  exact mj_ireturn dL_groom_14 ⟨_, rfl, rfl⟩ ⟨_, rfl, ⟨rfl, rfl⟩⟩
set_option maxHeartbeats 100000 in
set_option maxRecDepth 100000 in
theorem l_open {d n : Nat} {v1 : Int32} {K : Nat → mj_K} {f : Nat → Nat → Int32} {g : Nat → Nat → Option Nat} (k1 : K 2 = (2, 7, 0)) (g1 : g 2 0 = some 3) (k2 : K 3 = (2, 3, 0)) (f2 : f 3 = v0M) (k149 : K 149 = (4, 1, 0)) : mj_Hi m_L_open (d + 9) 1 6 [.ref 2, .int v1, .ref 149] (n, K, f, g) (fun r h1 => r = 1 ∧ h1 = (n, K, f, g)) := by
  refine mj_entryH (by refine ⟨by decide +kernel, by decide, rfl, Nat.le_of_ble_eq_true rfl⟩) ?_
  show mj_W _ _ _ _ _ 0 [.ref 2, .int v1, .ref 149, .null] [] _
  refine mj_aload_n (i := 2) (q := 1) dL_open_0 rfl rfl rfl ?_
  refine mj_num1 (v := 0) (q := 2) rfl dL_open_1 rfl ?_
  refine mj_aload_n (i := 0) (q := 3) dL_open_2 rfl rfl rfl ?_
  refine mj_iload_n (i := 1) (q := 4) dL_open_3 rfl rfl rfl ?_
  refine mj_kV1x (K := m_X5_open) (mc1 := 1) (ms1 := 6) (mc := 0) (ms := 0) dL_open_4 ln_L_63 ok_X5_open (Nat.le_of_ble_eq_true rfl) (by decide) (mj_rc2 (x := 0) (ci := 7) (by first | assumption | simp [mj_up, mj_upl, mj_row, *]) rfl) rfl rfl (x_open k1 g1 k2 f2) (fun n1 h1 hq => ?_)
  obtain ⟨rfl, rfl⟩ := hq
  refine mj_T_catch (M := m_L_open) (nx := 1) (hpc := 12) (ct := 21) (i := 3) (q := 13) [] [(0, 9, 15, 15)] 0 9 rfl (by intro z hz; cases hz) (by decide) (by decide) (by decide) cl_L_21 (fun _ z => mj_XW.cast1 z) (Or.inr ⟨3, dL_open_12, rfl, rfl⟩) (by decide) rfl ?_
  dsimp only [List.set]
  refine mj_num1 (v := 1) (q := 14) rfl dL_open_13 rfl ?_
  exact mj_ireturn dL_open_14 ⟨_, rfl, rfl⟩ ⟨_, rfl, ⟨rfl, rfl⟩⟩
set_option maxHeartbeats 100000 in
set_option maxRecDepth 100000 in
theorem l_close {d n : Nat} {v1 : Int32} {K : Nat → mj_K} {f : Nat → Nat → Int32} {g : Nat → Nat → Option Nat} (k1 : K 2 = (2, 7, 0)) (g1 : g 2 0 = some 3) (k2 : K 3 = (2, 3, 0)) (f2 : f 3 = v0M) (k149 : K 149 = (4, 1, 0)) : mj_Hi m_L_close (d + 9) 1 6 [.ref 2, .int v1, .ref 149] (n, K, f, g) (fun r h1 => r = 1 ∧ h1 = (n, K, f, g)) := by
  refine mj_entryH (by refine ⟨by decide +kernel, by decide, rfl, Nat.le_of_ble_eq_true rfl⟩) ?_
  show mj_W _ _ _ _ _ 0 [.ref 2, .int v1, .ref 149, .null] [] _
  refine mj_aload_n (i := 2) (q := 1) dL_close_0 rfl rfl rfl ?_
  refine mj_num1 (v := 0) (q := 2) rfl dL_close_1 rfl ?_
  refine mj_aload_n (i := 0) (q := 3) dL_close_2 rfl rfl rfl ?_
  refine mj_iload_n (i := 1) (q := 4) dL_close_3 rfl rfl rfl ?_
  refine mj_kV1x (K := m_X5_close) (mc1 := 1) (ms1 := 6) (mc := 0) (ms := 0) dL_close_4 ln_L_66 ok_X5_close (Nat.le_of_ble_eq_true rfl) (by decide) (mj_rc2 (x := 0) (ci := 7) (by first | assumption | simp [mj_up, mj_upl, mj_row, *]) rfl) rfl rfl (x_close k1 g1 k2 f2) (fun n1 h1 hq => ?_)
  obtain ⟨rfl, rfl⟩ := hq
  refine mj_T_catch (M := m_L_close) (nx := 1) (hpc := 12) (ct := 21) (i := 3) (q := 13) [] [(0, 9, 15, 15)] 0 9 rfl (by intro z hz; cases hz) (by decide) (by decide) (by decide) cl_L_21 (fun _ z => mj_XW.cast1 z) (Or.inr ⟨3, dL_close_12, rfl, rfl⟩) (by decide) rfl ?_
  dsimp only [List.set]
  refine mj_num1 (v := 1) (q := 14) rfl dL_close_13 rfl ?_
  exact mj_ireturn dL_close_14 ⟨_, rfl, rfl⟩ ⟨_, rfl, ⟨rfl, rfl⟩⟩
set_option maxHeartbeats 100000 in
set_option maxRecDepth 100000 in
theorem l_ofRun {d n : Nat} {v1 v2 : Int32} {K : Nat → mj_K} {f : Nat → Nat → Int32} {g : Nat → Nat → Option Nat} (k1 : K 2 = (2, 7, 0)) (g1 : g 2 0 = some 3) (k2 : K 3 = (2, 3, 0)) (f2 : f 3 = v0M) (k149 : K 149 = (4, 1, 0)) : mj_Hi m_L_ofRun (d + 9) 1 6 [.ref 2, .int v1, .int v2, .ref 149] (n, K, f, g) (fun r h1 => r = 1 ∧ h1 = (n, K, f, g)) := by
  refine mj_entryH (by refine ⟨by decide +kernel, by decide, rfl, Nat.le_of_ble_eq_true rfl⟩) ?_
  show mj_W _ _ _ _ _ 0 [.ref 2, .int v1, .int v2, .ref 149, .null] [] _
  refine mj_aload_n (i := 3) (q := 1) dL_ofRun_0 rfl rfl rfl ?_
  refine mj_num1 (v := 0) (q := 2) rfl dL_ofRun_1 rfl ?_
  refine mj_aload_n (i := 0) (q := 3) dL_ofRun_2 rfl rfl rfl ?_
  refine mj_iload_n (i := 1) (q := 4) dL_ofRun_3 rfl rfl rfl ?_
  refine mj_iload_n (i := 2) (q := 5) dL_ofRun_4 rfl rfl rfl ?_
  refine mj_kV2x (K := m_X5_ofRun) (mc1 := 1) (ms1 := 6) (mc := 0) (ms := 0) dL_ofRun_5 ln_L_69 ok_X5_ofRun (Nat.le_of_ble_eq_true rfl) (by decide) (mj_rc2 (x := 0) (ci := 7) (by first | assumption | simp [mj_up, mj_upl, mj_row, *]) rfl) rfl rfl (x_ofRun k1 g1 k2 f2) (fun n1 h1 hq => ?_)
  obtain ⟨rfl, rfl⟩ := hq
  refine mj_T_catch (M := m_L_ofRun) (nx := 1) (hpc := 13) (ct := 21) (i := 4) (q := 15) [] [(0, 10, 17, 13)] 0 10 rfl (by intro z hz; cases hz) (by decide) (by decide) (by decide) cl_L_21 (fun _ z => mj_XW.cast1 z) (Or.inl ⟨dL_ofRun_13, rfl⟩) (by decide) rfl ?_
  dsimp only [List.set]
  refine mj_num1 (v := 1) (q := 16) rfl dL_ofRun_15 rfl ?_
  exact mj_ireturn dL_ofRun_16 ⟨_, rfl, rfl⟩ ⟨_, rfl, ⟨rfl, rfl⟩⟩
set_option maxHeartbeats 100000 in
set_option maxRecDepth 100000 in
theorem l_ofLayer {d n : Nat} {v1 v2 v3 : Int32} {K : Nat → mj_K} {f : Nat → Nat → Int32} {g : Nat → Nat → Option Nat} (k1 : K 2 = (2, 7, 0)) (g1 : g 2 0 = some 3) (k2 : K 3 = (2, 3, 0)) (f2 : f 3 = v0M) (k149 : K 149 = (4, 1, 0)) : mj_Hi m_L_ofLayer (d + 9) 1 6 [.ref 2, .int v1, .int v2, .int v3, .ref 149] (n, K, f, g) (fun r h1 => r = 1 ∧ h1 = (n, K, f, g)) := by
  refine mj_entryH (by refine ⟨by decide +kernel, by decide, rfl, Nat.le_of_ble_eq_true rfl⟩) ?_
  show mj_W _ _ _ _ _ 0 [.ref 2, .int v1, .int v2, .int v3, .ref 149, .null] [] _
  refine mj_aload (i := 4) (q := 2) dL_ofLayer_0 rfl rfl ?_
  refine mj_num1 (v := 0) (q := 3) rfl dL_ofLayer_2 rfl ?_
  refine mj_aload_n (i := 0) (q := 4) dL_ofLayer_3 rfl rfl rfl ?_
  refine mj_iload_n (i := 1) (q := 5) dL_ofLayer_4 rfl rfl rfl ?_
  refine mj_iload_n (i := 2) (q := 6) dL_ofLayer_5 rfl rfl rfl ?_
  refine mj_iload_n (i := 3) (q := 7) dL_ofLayer_6 rfl rfl rfl ?_
  refine mj_kV3x (K := m_X5_ofLayer) (mc1 := 1) (ms1 := 6) (mc := 0) (ms := 0) dL_ofLayer_7 ln_L_72 ok_X5_ofLayer (Nat.le_of_ble_eq_true rfl) (by decide) (mj_rc2 (x := 0) (ci := 7) (by first | assumption | simp [mj_up, mj_upl, mj_row, *]) rfl) rfl rfl (x_ofLayer k1 g1 k2 f2) (fun n1 h1 hq => ?_)
  obtain ⟨rfl, rfl⟩ := hq
  refine mj_T_catch (M := m_L_ofLayer) (nx := 1) (hpc := 15) (ct := 21) (i := 5) (q := 17) [] [(0, 12, 19, 13)] 0 12 rfl (by intro z hz; cases hz) (by decide) (by decide) (by decide) cl_L_21 (fun _ z => mj_XW.cast1 z) (Or.inl ⟨dL_ofLayer_15, rfl⟩) (by decide) rfl ?_
  dsimp only [List.set]
  refine mj_num1 (v := 1) (q := 18) rfl dL_ofLayer_17 rfl ?_
  exact mj_ireturn dL_ofLayer_18 ⟨_, rfl, rfl⟩ ⟨_, rfl, ⟨rfl, rfl⟩⟩
set_option maxHeartbeats 100000 in
set_option maxRecDepth 100000 in
theorem l_ofLift {d n : Nat} {v1 v2 : Int32} {K : Nat → mj_K} {f : Nat → Nat → Int32} {g : Nat → Nat → Option Nat} (k1 : K 2 = (2, 7, 0)) (g1 : g 2 0 = some 3) (k2 : K 3 = (2, 3, 0)) (f2 : f 3 = v0M) (k149 : K 149 = (4, 1, 0)) : mj_Hi m_L_ofLift (d + 9) 1 6 [.ref 2, .int v1, .int v2, .ref 149] (n, K, f, g) (fun r h1 => r = 1 ∧ h1 = (n, K, f, g)) := by
  refine mj_entryH (by refine ⟨by decide +kernel, by decide, rfl, Nat.le_of_ble_eq_true rfl⟩) ?_
  show mj_W _ _ _ _ _ 0 [.ref 2, .int v1, .int v2, .ref 149, .null] [] _
  refine mj_aload_n (i := 3) (q := 1) dL_ofLift_0 rfl rfl rfl ?_
  refine mj_num1 (v := 0) (q := 2) rfl dL_ofLift_1 rfl ?_
  refine mj_aload_n (i := 0) (q := 3) dL_ofLift_2 rfl rfl rfl ?_
  refine mj_iload_n (i := 1) (q := 4) dL_ofLift_3 rfl rfl rfl ?_
  refine mj_iload_n (i := 2) (q := 5) dL_ofLift_4 rfl rfl rfl ?_
  refine mj_kV2x (K := m_X5_ofLift) (mc1 := 1) (ms1 := 6) (mc := 0) (ms := 0) dL_ofLift_5 ln_L_76 ok_X5_ofLift (Nat.le_of_ble_eq_true rfl) (by decide) (mj_rc2 (x := 0) (ci := 7) (by first | assumption | simp [mj_up, mj_upl, mj_row, *]) rfl) rfl rfl (x_ofLift k1 g1 k2 f2) (fun n1 h1 hq => ?_)
  obtain ⟨rfl, rfl⟩ := hq
  refine mj_T_catch (M := m_L_ofLift) (nx := 1) (hpc := 13) (ct := 21) (i := 4) (q := 15) [] [(0, 10, 17, 13)] 0 10 rfl (by intro z hz; cases hz) (by decide) (by decide) (by decide) cl_L_21 (fun _ z => mj_XW.cast1 z) (Or.inl ⟨dL_ofLift_13, rfl⟩) (by decide) rfl ?_
  dsimp only [List.set]
  refine mj_num1 (v := 1) (q := 16) rfl dL_ofLift_15 rfl ?_
  exact mj_ireturn dL_ofLift_16 ⟨_, rfl, rfl⟩ ⟨_, rfl, ⟨rfl, rfl⟩⟩
set_option maxHeartbeats 100000 in
set_option maxRecDepth 100000 in
theorem l_wouldRisk {d n : Nat} {v1 v2 v3 v4 : Int32} {K : Nat → mj_K} {f : Nat → Nat → Int32} {g : Nat → Nat → Option Nat} (k1 : K 2 = (2, 7, 0)) (g1 : g 2 0 = some 3) (k2 : K 3 = (2, 3, 0)) (f2 : f 3 = v0M) (k149 : K 149 = (4, 1, 0)) : mj_Hi m_L_wouldRisk (d + 9) 1 6 [.ref 2, .int v1, .int v2, .int v3, .int v4, .ref 149] (n, K, f, g) (fun r h1 => r = 1 ∧ h1 = (n, K, f, g)) := by
  refine mj_entryH (by refine ⟨by decide +kernel, by decide, rfl, Nat.le_of_ble_eq_true rfl⟩) ?_
  show mj_W _ _ _ _ _ 0 [.ref 2, .int v1, .int v2, .int v3, .int v4, .ref 149, .null] [] _
  refine mj_aload (i := 5) (q := 2) dL_wouldRisk_0 rfl rfl ?_
  refine mj_num1 (v := 0) (q := 3) rfl dL_wouldRisk_2 rfl ?_
  refine mj_aload_n (i := 0) (q := 4) dL_wouldRisk_3 rfl rfl rfl ?_
  refine mj_iload_n (i := 1) (q := 5) dL_wouldRisk_4 rfl rfl rfl ?_
  refine mj_iload_n (i := 2) (q := 6) dL_wouldRisk_5 rfl rfl rfl ?_
  refine mj_iload_n (i := 3) (q := 7) dL_wouldRisk_6 rfl rfl rfl ?_
  refine mj_iload (i := 4) (q := 9) dL_wouldRisk_7 rfl rfl ?_
  refine mj_kV4x (K := m_X5_wouldRisk) (mc1 := 1) (ms1 := 6) (mc := 0) (ms := 0) dL_wouldRisk_9 ln_L_82 ok_X5_wouldRisk (Nat.le_of_ble_eq_true rfl) (by decide) (mj_rc2 (x := 0) (ci := 7) (by first | assumption | simp [mj_up, mj_upl, mj_row, *]) rfl) rfl rfl (x_wouldRisk k1 g1 k2 f2) (fun n1 h1 hq => ?_)
  obtain ⟨rfl, rfl⟩ := hq
  refine mj_T_catch (M := m_L_wouldRisk) (nx := 1) (hpc := 17) (ct := 21) (i := 6) (q := 19) [] [(0, 14, 21, 13)] 0 14 rfl (by intro z hz; cases hz) (by decide) (by decide) (by decide) cl_L_21 (fun _ z => mj_XW.cast1 z) (Or.inl ⟨dL_wouldRisk_17, rfl⟩) (by decide) rfl ?_
  dsimp only [List.set]
  refine mj_num1 (v := 1) (q := 20) rfl dL_wouldRisk_19 rfl ?_
  exact mj_ireturn dL_wouldRisk_20 ⟨_, rfl, rfl⟩ ⟨_, rfl, ⟨rfl, rfl⟩⟩
set_option maxHeartbeats 100000 in
set_option maxRecDepth 100000 in
theorem l_wouldMake {d n : Nat} {v1 v2 v3 v4 : Int32} {K : Nat → mj_K} {f : Nat → Nat → Int32} {g : Nat → Nat → Option Nat} (k1 : K 2 = (2, 7, 0)) (g1 : g 2 0 = some 3) (k2 : K 3 = (2, 3, 0)) (f2 : f 3 = v0M) (k149 : K 149 = (4, 1, 0)) : mj_Hi m_L_wouldMake (d + 9) 1 6 [.ref 2, .int v1, .int v2, .int v3, .int v4, .ref 149] (n, K, f, g) (fun r h1 => r = 1 ∧ h1 = (n, K, f, g)) := by
  refine mj_entryH (by refine ⟨by decide +kernel, by decide, rfl, Nat.le_of_ble_eq_true rfl⟩) ?_
  show mj_W _ _ _ _ _ 0 [.ref 2, .int v1, .int v2, .int v3, .int v4, .ref 149, .null] [] _
  refine mj_aload (i := 5) (q := 2) dL_wouldMake_0 rfl rfl ?_
  refine mj_num1 (v := 0) (q := 3) rfl dL_wouldMake_2 rfl ?_
  refine mj_aload_n (i := 0) (q := 4) dL_wouldMake_3 rfl rfl rfl ?_
  refine mj_iload_n (i := 1) (q := 5) dL_wouldMake_4 rfl rfl rfl ?_
  refine mj_iload_n (i := 2) (q := 6) dL_wouldMake_5 rfl rfl rfl ?_
  refine mj_iload_n (i := 3) (q := 7) dL_wouldMake_6 rfl rfl rfl ?_
  refine mj_iload (i := 4) (q := 9) dL_wouldMake_7 rfl rfl ?_
  refine mj_kV4x (K := m_X5_wouldMake) (mc1 := 1) (ms1 := 6) (mc := 0) (ms := 0) dL_wouldMake_9 ln_L_86 ok_X5_wouldMake (Nat.le_of_ble_eq_true rfl) (by decide) (mj_rc2 (x := 0) (ci := 7) (by first | assumption | simp [mj_up, mj_upl, mj_row, *]) rfl) rfl rfl (x_wouldMake k1 g1 k2 f2) (fun n1 h1 hq => ?_)
  obtain ⟨rfl, rfl⟩ := hq
  refine mj_T_catch (M := m_L_wouldMake) (nx := 1) (hpc := 17) (ct := 21) (i := 6) (q := 19) [] [(0, 14, 21, 13)] 0 14 rfl (by intro z hz; cases hz) (by decide) (by decide) (by decide) cl_L_21 (fun _ z => mj_XW.cast1 z) (Or.inl ⟨dL_wouldMake_17, rfl⟩) (by decide) rfl ?_
  dsimp only [List.set]
  refine mj_num1 (v := 1) (q := 20) rfl dL_wouldMake_19 rfl ?_
  exact mj_ireturn dL_wouldMake_20 ⟨_, rfl, rfl⟩ ⟨_, rfl, ⟨rfl, rfl⟩⟩
theorem x_lift {d : Nat} {v1 v2 : Int32} {h : mj_H} (hx : ¬ ((¬ v1 < 10 ∧ v1 ≤ 999) ∧ (¬ v2 < 3 ∧ v2 ≤ 9))) : mj_Rx m_X5_lift (d + 7) 1 6 [.ref 2, .int v1, .int v2] h (fun n1 h1 => n1 = 0 ∧ h1 = h) := by
  by_cases q0 : v1 < 10 ∨ ¬ v1 ≤ 999
  · exact x_lift1  q0
  have a0 : ¬ v1 < 10 := fun z => q0 (Or.inl z)
  have b0 : v1 ≤ 999 := Classical.byContradiction fun z => q0 (Or.inr z)
  exact x_lift2 a0 b0 (Classical.byContradiction fun z => hx ⟨⟨a0, b0⟩, ⟨fun y => z (Or.inl y), Classical.byContradiction fun y => z (Or.inr y)⟩⟩)
theorem rx_lift {d n : Nat} {v1 v2 : Int32} {K : Nat → mj_K} {f : Nat → Nat → Int32} {g : Nat → Nat → Option Nat} (kX : K 145 = (2, 9, 0)) (hx : ¬ ((¬ v1 < 10 ∧ v1 ≤ 999) ∧ (¬ v2 < 3 ∧ v2 ≤ 9))) : mj_Ri m_X7_lift (d + 3) 0 0 [.ref 145, .int v1, .int v2] (n, K, f, g) (fun r h1 => r = 0 ∧ ∃ n1 K1 f1 g1, h1 = (n1, K1, f1, g1) ∧ K1 145 = (2, 9, 0) ∧ f1 145 0 = 1 ∧ K1 149 = K 149 ∧ f1 149 = f 149 ∧ K1 0 = K 0) := by
  by_cases q0 : v1 < 10 ∨ ¬ v1 ≤ 999
  · exact rx_lift1 kX  q0
  have a0 : ¬ v1 < 10 := fun z => q0 (Or.inl z)
  have b0 : v1 ≤ 999 := Classical.byContradiction fun z => q0 (Or.inr z)
  exact rx_lift2 kX a0 b0 (Classical.byContradiction fun z => hx ⟨⟨a0, b0⟩, ⟨fun y => z (Or.inl y), Classical.byContradiction fun y => z (Or.inr y)⟩⟩)
theorem x_pass {d : Nat} {v1 v2 v3 v4 v5 v6 : Int32} {h : mj_H} (hx : ¬ ((¬ v1 < 1 ∧ v1 ≤ 48) ∧ (¬ v2 < -20 ∧ v2 ≤ 20) ∧ (¬ v3 < 0 ∧ v3 ≤ 9) ∧ (¬ v4 < 0 ∧ v4 ≤ 9) ∧ (¬ v5 < 0 ∧ v5 ≤ 3) ∧ (¬ v6 < 0 ∧ v6 ≤ 100))) : mj_Rx m_X5_pass (d + 7) 1 6 [.ref 2, .int v1, .int v2, .int v3, .int v4, .int v5, .int v6] h (fun n1 h1 => n1 = 0 ∧ h1 = h) := by
  by_cases q0 : v1 < 1 ∨ ¬ v1 ≤ 48
  · exact x_pass0  q0
  have a0 : ¬ v1 < 1 := fun z => q0 (Or.inl z)
  have b0 : v1 ≤ 48 := Classical.byContradiction fun z => q0 (Or.inr z)
  by_cases q1 : v2 < -20 ∨ ¬ v2 ≤ 20
  · exact x_pass1 a0 b0 q1
  have a1 : ¬ v2 < -20 := fun z => q1 (Or.inl z)
  have b1 : v2 ≤ 20 := Classical.byContradiction fun z => q1 (Or.inr z)
  by_cases q2 : v3 < 0 ∨ ¬ v3 ≤ 9
  · exact x_pass2 a0 b0 a1 b1 q2
  have a2 : ¬ v3 < 0 := fun z => q2 (Or.inl z)
  have b2 : v3 ≤ 9 := Classical.byContradiction fun z => q2 (Or.inr z)
  by_cases q3 : v4 < 0 ∨ ¬ v4 ≤ 9
  · exact x_pass3 a0 b0 a1 b1 a2 b2 q3
  have a3 : ¬ v4 < 0 := fun z => q3 (Or.inl z)
  have b3 : v4 ≤ 9 := Classical.byContradiction fun z => q3 (Or.inr z)
  by_cases q4 : v5 < 0 ∨ ¬ v5 ≤ 3
  · exact x_pass4 a0 b0 a1 b1 a2 b2 a3 b3 q4
  have a4 : ¬ v5 < 0 := fun z => q4 (Or.inl z)
  have b4 : v5 ≤ 3 := Classical.byContradiction fun z => q4 (Or.inr z)
  exact x_pass5 a0 b0 a1 b1 a2 b2 a3 b3 a4 b4 (Classical.byContradiction fun z => hx ⟨⟨a0, b0⟩, ⟨a1, b1⟩, ⟨a2, b2⟩, ⟨a3, b3⟩, ⟨a4, b4⟩, ⟨fun y => z (Or.inl y), Classical.byContradiction fun y => z (Or.inr y)⟩⟩)
theorem rx_pass {d n : Nat} {v1 v2 v3 v4 v5 v6 : Int32} {K : Nat → mj_K} {f : Nat → Nat → Int32} {g : Nat → Nat → Option Nat} (kX : K 145 = (2, 9, 0)) (hx : ¬ ((¬ v1 < 1 ∧ v1 ≤ 48) ∧ (¬ v2 < -20 ∧ v2 ≤ 20) ∧ (¬ v3 < 0 ∧ v3 ≤ 9) ∧ (¬ v4 < 0 ∧ v4 ≤ 9) ∧ (¬ v5 < 0 ∧ v5 ≤ 3) ∧ (¬ v6 < 0 ∧ v6 ≤ 100))) : mj_Ri m_X7_pass (d + 3) 0 0 [.ref 145, .int v1, .int v2, .int v3, .int v4, .int v5, .int v6] (n, K, f, g) (fun r h1 => r = 0 ∧ ∃ n1 K1 f1 g1, h1 = (n1, K1, f1, g1) ∧ K1 145 = (2, 9, 0) ∧ f1 145 0 = 1 ∧ K1 149 = K 149 ∧ f1 149 = f 149 ∧ K1 0 = K 0) := by
  by_cases q0 : v1 < 1 ∨ ¬ v1 ≤ 48
  · exact rx_pass0 kX  q0
  have a0 : ¬ v1 < 1 := fun z => q0 (Or.inl z)
  have b0 : v1 ≤ 48 := Classical.byContradiction fun z => q0 (Or.inr z)
  by_cases q1 : v2 < -20 ∨ ¬ v2 ≤ 20
  · exact rx_pass1 kX a0 b0 q1
  have a1 : ¬ v2 < -20 := fun z => q1 (Or.inl z)
  have b1 : v2 ≤ 20 := Classical.byContradiction fun z => q1 (Or.inr z)
  by_cases q2 : v3 < 0 ∨ ¬ v3 ≤ 9
  · exact rx_pass2 kX a0 b0 a1 b1 q2
  have a2 : ¬ v3 < 0 := fun z => q2 (Or.inl z)
  have b2 : v3 ≤ 9 := Classical.byContradiction fun z => q2 (Or.inr z)
  by_cases q3 : v4 < 0 ∨ ¬ v4 ≤ 9
  · exact rx_pass3 kX a0 b0 a1 b1 a2 b2 q3
  have a3 : ¬ v4 < 0 := fun z => q3 (Or.inl z)
  have b3 : v4 ≤ 9 := Classical.byContradiction fun z => q3 (Or.inr z)
  by_cases q4 : v5 < 0 ∨ ¬ v5 ≤ 3
  · exact rx_pass4 kX a0 b0 a1 b1 a2 b2 a3 b3 q4
  have a4 : ¬ v5 < 0 := fun z => q4 (Or.inl z)
  have b4 : v5 ≤ 3 := Classical.byContradiction fun z => q4 (Or.inr z)
  exact rx_pass5 kX a0 b0 a1 b1 a2 b2 a3 b3 a4 b4 (Classical.byContradiction fun z => hx ⟨⟨a0, b0⟩, ⟨a1, b1⟩, ⟨a2, b2⟩, ⟨a3, b3⟩, ⟨a4, b4⟩, ⟨fun y => z (Or.inl y), Classical.byContradiction fun y => z (Or.inr y)⟩⟩)
set_option maxHeartbeats 100000 in
set_option maxRecDepth 100000 in
theorem l_fill {d n : Nat} {v1 : Int32} {K : Nat → mj_K} {f : Nat → Nat → Int32} {g : Nat → Nat → Option Nat} (k1 : K 2 = (2, 7, 0)) (g1 : g 2 0 = some 3) (k2 : K 3 = (2, 3, 0)) (f2 : f 3 = v0M) (k149 : K 149 = (4, 1, 0)) (h1 : ¬ v1 < 1) (h2 : v1 ≤ 5000) : mj_Hi m_L_fill (d + 9) 1 6 [.ref 2, .int v1, .ref 149] (n, K, f, g) (fun r h1 => r = 0 ∧ ∃ f1, h1 = (n, K, f1, g) ∧ mj_lg (f1 149 0) (f1 149 64) = Int32.toInt64 (v_fill v1) ∧ ∀ z, (z = 0 ∨ (144 < z ∧ z ≠ 149)) → f1 z = f z) := by
  refine mj_entryH (by refine ⟨by decide +kernel, by decide, rfl, Nat.le_of_ble_eq_true rfl⟩) ?_
  show mj_W _ _ _ _ _ 0 [.ref 2, .int v1, .ref 149, .null] [] _
  refine mj_aload_n (i := 2) (q := 1) dL_fill_0 rfl rfl rfl ?_
  refine mj_num1 (v := 0) (q := 2) rfl dL_fill_1 rfl ?_
  refine mj_aload_n (i := 0) (q := 3) dL_fill_2 rfl rfl rfl ?_
  refine mj_iload_n (i := 1) (q := 4) dL_fill_3 rfl rfl rfl ?_
  refine mj_kV1i (K := m_X5_fill) (q := 7) (mc1 := 0) (ms1 := 0) (mc := 1) (ms := 6) dL_fill_4 ln_L_34 ok_X5_fill (Nat.le_of_ble_eq_true rfl) (by decide) (mj_rc2 (x := 0) (ci := 7) (by first | assumption | simp [mj_up, mj_upl, mj_row, *]) rfl) rfl rfl rfl (s_fill k1 g1 k2 f2 h1 h2) (fun r_4 h1 hq => ?_)
  obtain ⟨rfl, f9, rfl, z1⟩ := hq
  refine mj_i2l (q := 8) dL_fill_7 rfl ?_
  refine mj_last0 (q := 9) dL_fill_8 rfl (by first | assumption | simp [mj_up, mj_upl, mj_row, *]) ?_
  refine mj_goto (q := 15) dL_fill_9 (by decide) ?_
  refine mj_num1 (v := 0) (q := 16) rfl dL_fill_15 rfl ?_
  exact mj_ireturn dL_fill_16 ⟨_, rfl, rfl⟩ ⟨_, rfl, ⟨rfl, _, rfl, mj_upl_get _ _ _ _, fun z hz => (by unfold mj_upl; rw [mj_upr (by omega), mj_upr (by omega)]; exact z1 z (by omega))⟩⟩
set_option maxHeartbeats 100000 in
set_option maxRecDepth 100000 in
theorem lx_fill {d n : Nat} {v1 : Int32} {K : Nat → mj_K} {f : Nat → Nat → Int32} {g : Nat → Nat → Option Nat} (k1 : K 2 = (2, 7, 0)) (hx : v1 < 1 ∨ ¬ v1 ≤ 5000) : mj_Hi m_L_fill (d + 9) 1 6 [.ref 2, .int v1, .ref 149] (n, K, f, g) (fun r h1 => r = 1 ∧ h1 = (n, K, f, g)) := by
  refine mj_entryH (by refine ⟨by decide +kernel, by decide, rfl, Nat.le_of_ble_eq_true rfl⟩) ?_
  show mj_W _ _ _ _ _ 0 [.ref 2, .int v1, .ref 149, .null] [] _
  refine mj_aload_n (i := 2) (q := 1) dL_fill_0 rfl rfl rfl ?_
  refine mj_num1 (v := 0) (q := 2) rfl dL_fill_1 rfl ?_
  refine mj_aload_n (i := 0) (q := 3) dL_fill_2 rfl rfl rfl ?_
  refine mj_iload_n (i := 1) (q := 4) dL_fill_3 rfl rfl rfl ?_
  refine mj_kV1x (K := m_X5_fill) (mc1 := 1) (ms1 := 6) (mc := 0) (ms := 0) dL_fill_4 ln_L_34 ok_X5_fill (Nat.le_of_ble_eq_true rfl) (by decide) (mj_rc2 (x := 0) (ci := 7) (by first | assumption | simp [mj_up, mj_upl, mj_row, *]) rfl) rfl rfl (x_fill hx) (fun n1 h1 hq => ?_)
  obtain ⟨rfl, rfl⟩ := hq
  refine mj_T_catch (M := m_L_fill) (nx := 0) (hpc := 12) (ct := 13) (i := 3) (q := 13) [] [] 0 9 rfl (by intro z hz; cases hz) (by decide) (by decide) (by decide) cl_L_13 (fun _ z => mj_XW.cast0 z) (Or.inr ⟨3, dL_fill_12, rfl, rfl⟩) (by decide) rfl ?_
  dsimp only [List.set]
  refine mj_num1 (v := 1) (q := 14) rfl dL_fill_13 rfl ?_
  exact mj_ireturn dL_fill_14 ⟨_, rfl, rfl⟩ ⟨_, rfl, ⟨rfl, rfl⟩⟩
set_option maxHeartbeats 100000 in
set_option maxRecDepth 100000 in
theorem l_crowd {d n : Nat} {v1 : Int32} {K : Nat → mj_K} {f : Nat → Nat → Int32} {g : Nat → Nat → Option Nat} (k1 : K 2 = (2, 7, 0)) (g1 : g 2 0 = some 3) (k2 : K 3 = (2, 3, 0)) (f2 : f 3 = v0M) (k149 : K 149 = (4, 1, 0)) (h1 : ¬ v1 < 0) (h2 : v1 ≤ 5000) : mj_Hi m_L_crowd (d + 9) 1 6 [.ref 2, .int v1, .ref 149] (n, K, f, g) (fun r h1 => r = 0 ∧ ∃ f1, h1 = (n, K, f1, g) ∧ mj_lg (f1 149 0) (f1 149 64) = Int32.toInt64 ((0 : Int32)) ∧ ∀ z, (z = 0 ∨ (144 < z ∧ z ≠ 149)) → f1 z = f z) := by
  refine mj_entryH (by refine ⟨by decide +kernel, by decide, rfl, Nat.le_of_ble_eq_true rfl⟩) ?_
  show mj_W _ _ _ _ _ 0 [.ref 2, .int v1, .ref 149, .null] [] _
  refine mj_aload_n (i := 2) (q := 1) dL_crowd_0 rfl rfl rfl ?_
  refine mj_num1 (v := 0) (q := 2) rfl dL_crowd_1 rfl ?_
  refine mj_aload_n (i := 0) (q := 3) dL_crowd_2 rfl rfl rfl ?_
  refine mj_iload_n (i := 1) (q := 4) dL_crowd_3 rfl rfl rfl ?_
  refine mj_kV1i (K := m_X5_crowd) (q := 7) (mc1 := 0) (ms1 := 0) (mc := 1) (ms := 6) dL_crowd_4 ln_L_38 ok_X5_crowd (Nat.le_of_ble_eq_true rfl) (by decide) (mj_rc2 (x := 0) (ci := 7) (by first | assumption | simp [mj_up, mj_upl, mj_row, *]) rfl) rfl rfl rfl (s_crowd k1 g1 k2 f2 h1 h2) (fun r_4 h1 hq => ?_)
  obtain ⟨rfl, f9, rfl, z1⟩ := hq
  refine mj_i2l (q := 8) dL_crowd_7 rfl ?_
  refine mj_last0 (q := 9) dL_crowd_8 rfl (by first | assumption | simp [mj_up, mj_upl, mj_row, *]) ?_
  refine mj_goto (q := 15) dL_crowd_9 (by decide) ?_
  refine mj_num1 (v := 0) (q := 16) rfl dL_crowd_15 rfl ?_
  exact mj_ireturn dL_crowd_16 ⟨_, rfl, rfl⟩ ⟨_, rfl, ⟨rfl, _, rfl, mj_upl_get _ _ _ _, fun z hz => (by unfold mj_upl; rw [mj_upr (by omega), mj_upr (by omega)]; exact z1 z (by omega))⟩⟩
set_option maxHeartbeats 100000 in
set_option maxRecDepth 100000 in
theorem lx_crowd {d n : Nat} {v1 : Int32} {K : Nat → mj_K} {f : Nat → Nat → Int32} {g : Nat → Nat → Option Nat} (k1 : K 2 = (2, 7, 0)) (hx : v1 < 0 ∨ ¬ v1 ≤ 5000) : mj_Hi m_L_crowd (d + 9) 1 6 [.ref 2, .int v1, .ref 149] (n, K, f, g) (fun r h1 => r = 1 ∧ h1 = (n, K, f, g)) := by
  refine mj_entryH (by refine ⟨by decide +kernel, by decide, rfl, Nat.le_of_ble_eq_true rfl⟩) ?_
  show mj_W _ _ _ _ _ 0 [.ref 2, .int v1, .ref 149, .null] [] _
  refine mj_aload_n (i := 2) (q := 1) dL_crowd_0 rfl rfl rfl ?_
  refine mj_num1 (v := 0) (q := 2) rfl dL_crowd_1 rfl ?_
  refine mj_aload_n (i := 0) (q := 3) dL_crowd_2 rfl rfl rfl ?_
  refine mj_iload_n (i := 1) (q := 4) dL_crowd_3 rfl rfl rfl ?_
  refine mj_kV1x (K := m_X5_crowd) (mc1 := 1) (ms1 := 6) (mc := 0) (ms := 0) dL_crowd_4 ln_L_38 ok_X5_crowd (Nat.le_of_ble_eq_true rfl) (by decide) (mj_rc2 (x := 0) (ci := 7) (by first | assumption | simp [mj_up, mj_upl, mj_row, *]) rfl) rfl rfl (x_crowd hx) (fun n1 h1 hq => ?_)
  obtain ⟨rfl, rfl⟩ := hq
  refine mj_T_catch (M := m_L_crowd) (nx := 0) (hpc := 12) (ct := 13) (i := 3) (q := 13) [] [] 0 9 rfl (by intro z hz; cases hz) (by decide) (by decide) (by decide) cl_L_13 (fun _ z => mj_XW.cast0 z) (Or.inr ⟨3, dL_crowd_12, rfl, rfl⟩) (by decide) rfl ?_
  dsimp only [List.set]
  refine mj_num1 (v := 1) (q := 14) rfl dL_crowd_13 rfl ?_
  exact mj_ireturn dL_crowd_14 ⟨_, rfl, rfl⟩ ⟨_, rfl, ⟨rfl, rfl⟩⟩
set_option maxHeartbeats 100000 in
set_option maxRecDepth 100000 in
theorem l_many {d n k : Nat} {K : Nat → mj_K} {f : Nat → Nat → Int32} {g : Nat → Nat → Option Nat} (k1 : K 2 = (2, 7, 0)) (g1 : g 2 0 = some 3) (k2 : K 3 = (2, 3, 0)) (f2 : f 3 = v0M) (k149 : K 149 = (4, 1, 0)) (hk : k < 15) : mj_Hi m_L_many (d + 9) 1 6 [.ref 2, .int (nI k), .ref 149] (n, K, f, g) (fun r h1 => r = 0 ∧ ∃ f1, h1 = (n, K, f1, g) ∧ mj_lg (f1 149 0) (f1 149 64) = Int32.toInt64 (v_many k) ∧ ∀ z, (z = 0 ∨ (144 < z ∧ z ≠ 149)) → f1 z = f z) := by
  refine mj_entryH (by refine ⟨by decide +kernel, by decide, rfl, Nat.le_of_ble_eq_true rfl⟩) ?_
  show mj_W _ _ _ _ _ 0 [.ref 2, .int (nI k), .ref 149, .null] [] _
  refine mj_aload_n (i := 2) (q := 1) dL_many_0 rfl rfl rfl ?_
  refine mj_num1 (v := 0) (q := 2) rfl dL_many_1 rfl ?_
  refine mj_aload_n (i := 0) (q := 3) dL_many_2 rfl rfl rfl ?_
  refine mj_iload_n (i := 1) (q := 4) dL_many_3 rfl rfl rfl ?_
  refine mj_kV1i (K := m_X5_many) (q := 7) (mc1 := 0) (ms1 := 0) (mc := 1) (ms := 6) dL_many_4 ln_L_79 ok_X5_many (Nat.le_of_ble_eq_true rfl) (by decide) (mj_rc2 (x := 0) (ci := 7) (by first | assumption | simp [mj_up, mj_upl, mj_row, *]) rfl) rfl rfl rfl (s_many k1 g1 k2 f2 hk) (fun r_4 h1 hq => ?_)
  obtain ⟨rfl, rfl⟩ := hq
  refine mj_i2l (q := 8) dL_many_7 rfl ?_
  refine mj_last0 (q := 9) dL_many_8 rfl (by first | assumption | simp [mj_up, mj_upl, mj_row, *]) ?_
  refine mj_goto (q := 15) dL_many_9 (by decide) ?_
  refine mj_num1 (v := 0) (q := 16) rfl dL_many_15 rfl ?_
  exact mj_ireturn dL_many_16 ⟨_, rfl, rfl⟩ ⟨_, rfl, ⟨rfl, _, rfl, mj_upl_get _ _ _ _, fun z hz => by unfold mj_upl; rw [mj_upr (by omega), mj_upr (by omega)]⟩⟩
set_option maxHeartbeats 100000 in
set_option maxRecDepth 100000 in
theorem lx_many {d n : Nat} {v1 : Int32} {K : Nat → mj_K} {f : Nat → Nat → Int32} {g : Nat → Nat → Option Nat} (k1 : K 2 = (2, 7, 0)) (hx : v1 < 0 ∨ ¬ v1 ≤ 14) : mj_Hi m_L_many (d + 9) 1 6 [.ref 2, .int v1, .ref 149] (n, K, f, g) (fun r h1 => r = 1 ∧ h1 = (n, K, f, g)) := by
  refine mj_entryH (by refine ⟨by decide +kernel, by decide, rfl, Nat.le_of_ble_eq_true rfl⟩) ?_
  show mj_W _ _ _ _ _ 0 [.ref 2, .int v1, .ref 149, .null] [] _
  refine mj_aload_n (i := 2) (q := 1) dL_many_0 rfl rfl rfl ?_
  refine mj_num1 (v := 0) (q := 2) rfl dL_many_1 rfl ?_
  refine mj_aload_n (i := 0) (q := 3) dL_many_2 rfl rfl rfl ?_
  refine mj_iload_n (i := 1) (q := 4) dL_many_3 rfl rfl rfl ?_
  refine mj_kV1x (K := m_X5_many) (mc1 := 1) (ms1 := 6) (mc := 0) (ms := 0) dL_many_4 ln_L_79 ok_X5_many (Nat.le_of_ble_eq_true rfl) (by decide) (mj_rc2 (x := 0) (ci := 7) (by first | assumption | simp [mj_up, mj_upl, mj_row, *]) rfl) rfl rfl (x_many hx) (fun n1 h1 hq => ?_)
  obtain ⟨rfl, rfl⟩ := hq
  refine mj_T_catch (M := m_L_many) (nx := 0) (hpc := 12) (ct := 13) (i := 3) (q := 13) [] [] 0 9 rfl (by intro z hz; cases hz) (by decide) (by decide) (by decide) cl_L_13 (fun _ z => mj_XW.cast0 z) (Or.inr ⟨3, dL_many_12, rfl, rfl⟩) (by decide) rfl ?_
  dsimp only [List.set]
  refine mj_num1 (v := 1) (q := 14) rfl dL_many_13 rfl ?_
  exact mj_ireturn dL_many_14 ⟨_, rfl, rfl⟩ ⟨_, rfl, ⟨rfl, rfl⟩⟩
set_option maxHeartbeats 100000 in
set_option maxRecDepth 100000 in
theorem l_lift {d n : Nat} {v1 v2 : Int32} {K : Nat → mj_K} {f : Nat → Nat → Int32} {g : Nat → Nat → Option Nat} (k1 : K 2 = (2, 7, 0)) (g1 : g 2 0 = some 3) (k2 : K 3 = (2, 3, 0)) (f2 : f 3 = v0M) (k149 : K 149 = (4, 1, 0)) (g2 : g 3 0 = some 4) (k3 : K 4 = (1, 4, 2)) (g3 : g 4 0 = some 5) (k4 : K 5 = (2, 2, 0)) (h1 : ¬ v1 < 10) (h2 : v1 ≤ 999) (h3 : ¬ v2 < 3) (h4 : v2 ≤ 9) : mj_Hi m_L_lift (d + 9) 1 6 [.ref 2, .int v1, .int v2, .ref 149] (n, K, f, g) (fun r h1 => r = 0 ∧ ∃ f1, h1 = (n, K, f1, g) ∧ mj_lg (f1 149 0) (f1 149 64) = Int32.toInt64 ((0 : Int32)) ∧ ∀ z, (z = 0 ∨ (144 < z ∧ z ≠ 149)) → f1 z = f z) := by
  refine mj_entryH (by refine ⟨by decide +kernel, by decide, rfl, Nat.le_of_ble_eq_true rfl⟩) ?_
  show mj_W _ _ _ _ _ 0 [.ref 2, .int v1, .int v2, .ref 149, .null] [] _
  refine mj_aload_n (i := 3) (q := 1) dL_lift_0 rfl rfl rfl ?_
  refine mj_num1 (v := 0) (q := 2) rfl dL_lift_1 rfl ?_
  refine mj_aload_n (i := 0) (q := 3) dL_lift_2 rfl rfl rfl ?_
  refine mj_iload_n (i := 1) (q := 4) dL_lift_3 rfl rfl rfl ?_
  refine mj_iload_n (i := 2) (q := 5) dL_lift_4 rfl rfl rfl ?_
  refine mj_kV2i (K := m_X5_lift) (q := 8) (mc1 := 0) (ms1 := 0) (mc := 1) (ms := 6) dL_lift_5 ln_L_7 ok_X5_lift (Nat.le_of_ble_eq_true rfl) (by decide) (mj_rc2 (x := 0) (ci := 7) (by first | assumption | simp [mj_up, mj_upl, mj_row, *]) rfl) rfl rfl rfl (s_lift k1 g1 k2 f2 g2 k3 g3 k4 h1 h2 h3 h4) (fun r_5 h1 hq => ?_)
  obtain ⟨rfl, f9, rfl, z1⟩ := hq
  refine mj_i2l (q := 9) dL_lift_8 rfl ?_
  refine mj_last0 (q := 10) dL_lift_9 rfl (by first | assumption | simp [mj_up, mj_upl, mj_row, *]) ?_
  refine mj_goto (q := 21) dL_lift_10 (by decide) ?_
  refine mj_num1 (v := 0) (q := 22) rfl dL_lift_21 rfl ?_
  exact mj_ireturn dL_lift_22 ⟨_, rfl, rfl⟩ ⟨_, rfl, ⟨rfl, _, rfl, mj_upl_get _ _ _ _, fun z hz => (by unfold mj_upl; rw [mj_upr (by omega), mj_upr (by omega)]; exact z1 z (by omega))⟩⟩
set_option maxHeartbeats 100000 in
set_option maxRecDepth 100000 in
theorem lx_lift {d n : Nat} {v1 v2 : Int32} {K : Nat → mj_K} {f : Nat → Nat → Int32} {g : Nat → Nat → Option Nat} (k1 : K 2 = (2, 7, 0)) (hx : ¬ ((¬ v1 < 10 ∧ v1 ≤ 999) ∧ (¬ v2 < 3 ∧ v2 ≤ 9))) : mj_Hi m_L_lift (d + 9) 1 6 [.ref 2, .int v1, .int v2, .ref 149] (n, K, f, g) (fun r h1 => r = 1 ∧ h1 = (n, K, f, g)) := by
  refine mj_entryH (by refine ⟨by decide +kernel, by decide, rfl, Nat.le_of_ble_eq_true rfl⟩) ?_
  show mj_W _ _ _ _ _ 0 [.ref 2, .int v1, .int v2, .ref 149, .null] [] _
  refine mj_aload_n (i := 3) (q := 1) dL_lift_0 rfl rfl rfl ?_
  refine mj_num1 (v := 0) (q := 2) rfl dL_lift_1 rfl ?_
  refine mj_aload_n (i := 0) (q := 3) dL_lift_2 rfl rfl rfl ?_
  refine mj_iload_n (i := 1) (q := 4) dL_lift_3 rfl rfl rfl ?_
  refine mj_iload_n (i := 2) (q := 5) dL_lift_4 rfl rfl rfl ?_
  refine mj_kV2x (K := m_X5_lift) (mc1 := 1) (ms1 := 6) (mc := 0) (ms := 0) dL_lift_5 ln_L_7 ok_X5_lift (Nat.le_of_ble_eq_true rfl) (by decide) (mj_rc2 (x := 0) (ci := 7) (by first | assumption | simp [mj_up, mj_upl, mj_row, *]) rfl) rfl rfl (x_lift hx) (fun n1 h1 hq => ?_)
  obtain ⟨rfl, rfl⟩ := hq
  refine mj_T_catch (M := m_L_lift) (nx := 0) (hpc := 13) (ct := 13) (i := 4) (q := 15) [] [(0, 10, 17, 15)] 0 10 rfl (by intro z hz; cases hz) (by decide) (by decide) (by decide) cl_L_13 (fun _ z => mj_XW.cast0 z) (Or.inl ⟨dL_lift_13, rfl⟩) (by decide) rfl ?_
  dsimp only [List.set]
  refine mj_num1 (v := 1) (q := 16) rfl dL_lift_15 rfl ?_
  exact mj_ireturn dL_lift_16 ⟨_, rfl, rfl⟩ ⟨_, rfl, ⟨rfl, rfl⟩⟩
set_option maxHeartbeats 100000 in
set_option maxRecDepth 100000 in
theorem l_pass {d n : Nat} {v1 v2 v3 v4 v5 v6 : Int32} {K : Nat → mj_K} {f : Nat → Nat → Int32} {g : Nat → Nat → Option Nat} (k1 : K 2 = (2, 7, 0)) (g1 : g 2 0 = some 3) (k2 : K 3 = (2, 3, 0)) (f2 : f 3 = v0M) (k149 : K 149 = (4, 1, 0)) (g9 : g 2 3 = some 144) (k9 : K 144 = (2, 6, 0)) (h0a : ¬ v1 < 1) (h0b : v1 ≤ 48) (h1a : ¬ v2 < -20) (h1b : v2 ≤ 20) (h2a : ¬ v3 < 0) (h2b : v3 ≤ 9) (h3a : ¬ v4 < 0) (h3b : v4 ≤ 9) (h4a : ¬ v5 < 0) (h4b : v5 ≤ 3) (h5a : ¬ v6 < 0) (h5b : v6 ≤ 100) : mj_Hi m_L_pass (d + 9) 1 6 [.ref 2, .int v1, .int v2, .int v3, .int v4, .int v5, .int v6, .ref 149] (n, K, f, g) (fun r h1 => r = 0 ∧ ∃ f1, h1 = (n, K, f1, g) ∧ mj_lg (f1 149 0) (f1 149 64) = Int32.toInt64 ((0 : Int32)) ∧ ∀ z, (z = 0 ∨ (144 < z ∧ z ≠ 149)) → f1 z = f z) := by
  refine mj_entryH (by refine ⟨by decide +kernel, by decide, rfl, Nat.le_of_ble_eq_true rfl⟩) ?_
  show mj_W _ _ _ _ _ 0 [.ref 2, .int v1, .int v2, .int v3, .int v4, .int v5, .int v6, .ref 149, .null] [] _
  refine mj_aload (i := 7) (q := 2) dL_pass_0 rfl rfl ?_
  refine mj_num1 (v := 0) (q := 3) rfl dL_pass_2 rfl ?_
  refine mj_aload_n (i := 0) (q := 4) dL_pass_3 rfl rfl rfl ?_
  refine mj_iload_n (i := 1) (q := 5) dL_pass_4 rfl rfl rfl ?_
  refine mj_iload_n (i := 2) (q := 6) dL_pass_5 rfl rfl rfl ?_
  refine mj_iload_n (i := 3) (q := 7) dL_pass_6 rfl rfl rfl ?_
  refine mj_iload (i := 4) (q := 9) dL_pass_7 rfl rfl ?_
  refine mj_iload (i := 5) (q := 11) dL_pass_9 rfl rfl ?_
  refine mj_iload (i := 6) (q := 13) dL_pass_11 rfl rfl ?_
  refine mj_kV6i (K := m_X5_pass) (q := 16) (mc1 := 0) (ms1 := 0) (mc := 1) (ms := 6) dL_pass_13 ln_L_41 ok_X5_pass (Nat.le_of_ble_eq_true rfl) (by decide) (mj_rc2 (x := 0) (ci := 7) (by first | assumption | simp [mj_up, mj_upl, mj_row, *]) rfl) rfl rfl rfl (s_pass k1 g1 k2 f2 g9 k9 h0a h0b h1a h1b h2a h2b h3a h3b h4a h4b h5a h5b) (fun r_13 h1 hq => ?_)
  obtain ⟨rfl, f9, rfl, z1⟩ := hq
  refine mj_i2l (q := 17) dL_pass_16 rfl ?_
  refine mj_last0 (q := 18) dL_pass_17 rfl (by first | assumption | simp [mj_up, mj_upl, mj_row, *]) ?_
  refine mj_goto (q := 29) dL_pass_18 (by decide) ?_
  refine mj_num1 (v := 0) (q := 30) rfl dL_pass_29 rfl ?_
  exact mj_ireturn dL_pass_30 ⟨_, rfl, rfl⟩ ⟨_, rfl, ⟨rfl, _, rfl, mj_upl_get _ _ _ _, fun z hz => (by unfold mj_upl; rw [mj_upr (by omega), mj_upr (by omega)]; exact z1 z (by omega))⟩⟩
set_option maxHeartbeats 100000 in
set_option maxRecDepth 100000 in
theorem lx_pass {d n : Nat} {v1 v2 v3 v4 v5 v6 : Int32} {K : Nat → mj_K} {f : Nat → Nat → Int32} {g : Nat → Nat → Option Nat} (k1 : K 2 = (2, 7, 0)) (hx : ¬ ((¬ v1 < 1 ∧ v1 ≤ 48) ∧ (¬ v2 < -20 ∧ v2 ≤ 20) ∧ (¬ v3 < 0 ∧ v3 ≤ 9) ∧ (¬ v4 < 0 ∧ v4 ≤ 9) ∧ (¬ v5 < 0 ∧ v5 ≤ 3) ∧ (¬ v6 < 0 ∧ v6 ≤ 100))) : mj_Hi m_L_pass (d + 9) 1 6 [.ref 2, .int v1, .int v2, .int v3, .int v4, .int v5, .int v6, .ref 149] (n, K, f, g) (fun r h1 => r = 1 ∧ h1 = (n, K, f, g)) := by
  refine mj_entryH (by refine ⟨by decide +kernel, by decide, rfl, Nat.le_of_ble_eq_true rfl⟩) ?_
  show mj_W _ _ _ _ _ 0 [.ref 2, .int v1, .int v2, .int v3, .int v4, .int v5, .int v6, .ref 149, .null] [] _
  refine mj_aload (i := 7) (q := 2) dL_pass_0 rfl rfl ?_
  refine mj_num1 (v := 0) (q := 3) rfl dL_pass_2 rfl ?_
  refine mj_aload_n (i := 0) (q := 4) dL_pass_3 rfl rfl rfl ?_
  refine mj_iload_n (i := 1) (q := 5) dL_pass_4 rfl rfl rfl ?_
  refine mj_iload_n (i := 2) (q := 6) dL_pass_5 rfl rfl rfl ?_
  refine mj_iload_n (i := 3) (q := 7) dL_pass_6 rfl rfl rfl ?_
  refine mj_iload (i := 4) (q := 9) dL_pass_7 rfl rfl ?_
  refine mj_iload (i := 5) (q := 11) dL_pass_9 rfl rfl ?_
  refine mj_iload (i := 6) (q := 13) dL_pass_11 rfl rfl ?_
  refine mj_kV6x (K := m_X5_pass) (mc1 := 1) (ms1 := 6) (mc := 0) (ms := 0) dL_pass_13 ln_L_41 ok_X5_pass (Nat.le_of_ble_eq_true rfl) (by decide) (mj_rc2 (x := 0) (ci := 7) (by first | assumption | simp [mj_up, mj_upl, mj_row, *]) rfl) rfl rfl (x_pass hx) (fun n1 h1 hq => ?_)
  obtain ⟨rfl, rfl⟩ := hq
  refine mj_T_catch (M := m_L_pass) (nx := 0) (hpc := 21) (ct := 13) (i := 8) (q := 23) [] [(0, 18, 25, 15)] 0 18 rfl (by intro z hz; cases hz) (by decide) (by decide) (by decide) cl_L_13 (fun _ z => mj_XW.cast0 z) (Or.inl ⟨dL_pass_21, rfl⟩) (by decide) rfl ?_
  dsimp only [List.set]
  refine mj_num1 (v := 1) (q := 24) rfl dL_pass_23 rfl ?_
  exact mj_ireturn dL_pass_24 ⟨_, rfl, rfl⟩ ⟨_, rfl, ⟨rfl, rfl⟩⟩
