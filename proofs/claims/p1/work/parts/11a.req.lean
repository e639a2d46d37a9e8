/-! THE CLASS on a fresh object -/
theorem ini_IAE : Cond.initialized (mj_xn 0) ∈ mj_TW := mj_in 15 (by decide +kernel) rfl
set_option maxRecDepth 100000 in
theorem go_IAE : ∀ w ∈ Cond.classLink RX5 324 (mj_xn 0) :: Cond.initialized (mj_xn 0) :: vx_atS RX5 328 (mj_xn 0) ["java/lang/RuntimeException", "java/lang/Exception"], vx_ot w = true := List.all_eq_true.mp (by decide +kernel)
theorem ini_IOB : Cond.initialized (mj_xn 1) ∈ mj_TW := mj_in 21 (by decide +kernel) rfl
set_option maxRecDepth 100000 in
theorem go_IOB : ∀ w ∈ Cond.classLink RX5 226 (mj_xn 1) :: Cond.initialized (mj_xn 1) :: vx_atS RX5 230 (mj_xn 1) ["java/lang/RuntimeException", "java/lang/Exception"], vx_ot w = true := List.all_eq_true.mp (by decide +kernel)
theorem str_within : ∀ s, mj_XW s → ∃ sa, vk_R RX5 326 "out of its bounds" sa s := fun _ z => mj_XW.str_within z
theorem str_lift : ∀ s, mj_XW s → ∃ sa, vk_R RX5 329 "no such lift" sa s := fun _ z => mj_XW.str_lift z
theorem str_run : ∀ s, mj_XW s → ∃ sa, vk_R RX5 331 "no such run" sa s := fun _ z => mj_XW.str_run z
set_option maxHeartbeats 100000 in
set_option maxRecDepth 100000 in
theorem s_within {d : Nat} {v lo hi : Int32} {h : mj_H} (h1 : ¬ v < lo) (h2 : v ≤ hi) : mj_Rv m_X5_requireWithin (d + 1) 0 0 [.int v, .int lo, .int hi] h (fun h1 => h1 = h) := by
  refine mj_entry (by refine ⟨by decide +kernel, by decide, rfl, Nat.le_of_ble_eq_true rfl⟩) ?_
  show mj_W _ _ _ _ _ 0 [.int v, .int lo, .int hi] [] _
  refine mj_iload_n (i := 0) (q := 1) dX5_requireWithin_0 rfl rfl rfl ?_
  refine mj_iload_n (i := 1) (q := 2) dX5_requireWithin_1 rfl rfl rfl ?_
  refine mj_icmp_lt (tgt := 10) (q := 5) dX5_requireWithin_2 (by decide) rfl (fun c_2 => absurd c_2 h1) (fun c_2 => ?_)
  refine mj_iload_n (i := 0) (q := 6) dX5_requireWithin_5 rfl rfl rfl ?_
  refine mj_iload_n (i := 2) (q := 7) dX5_requireWithin_6 rfl rfl rfl ?_
  refine mj_icmp_le (tgt := 21) (q := 10) dX5_requireWithin_7 (by decide) rfl (fun c_7 => ?_) (fun c_7 => absurd h2 c_7)
  exact mj_return dX5_requireWithin_21 rfl ⟨rfl, rfl⟩
set_option maxHeartbeats 100000 in
set_option maxRecDepth 100000 in
theorem s_within_x {d : Nat} {v lo hi : Int32} {h : mj_H} (hx : v < lo ∨ ¬ v ≤ hi) : mj_Rx m_X5_requireWithin (d + 6) 1 6 [.int v, .int lo, .int hi] h (fun n h1 => n = 0 ∧ h1 = h) := by
  refine mj_entry (by refine ⟨by decide +kernel, by decide, rfl, Nat.le_of_ble_eq_true rfl⟩) ?_
  show mj_W _ _ _ _ _ 0 [.int v, .int lo, .int hi] [] _
  refine mj_iload_n (i := 0) (q := 1) dX5_requireWithin_0 rfl rfl rfl ?_
  refine mj_iload_n (i := 1) (q := 2) dX5_requireWithin_1 rfl rfl rfl ?_
  refine mj_icmp_lt (tgt := 10) (q := 5) dX5_requireWithin_2 (by decide) rfl (fun c_2 => ?_) (fun c_2 => ?_)
  · refine mj_budget (mc1 := 1 + 0) (ms1 := 6 + 0) (by omega) (by omega) ?_
    exact mj_throwW (M := m_X5_requireWithin) (is := 326) (text := "out of its bounds") (nx := 0) rfl dX5_requireWithin_10 dX5_requireWithin_13 dX5_requireWithin_14 dX5_requireWithin_17 dX5_requireWithin_20 (by decide +kernel) cl_X5_324 ini_IAE str_within (fun s a ht z => at_IAE s a ht z) go_IAE (by omega) (Nat.le_of_ble_eq_true rfl) ⟨rfl, rfl⟩
  · refine mj_iload_n (i := 0) (q := 6) dX5_requireWithin_5 rfl rfl rfl ?_
    refine mj_iload_n (i := 2) (q := 7) dX5_requireWithin_6 rfl rfl rfl ?_
    refine mj_icmp_le (tgt := 21) (q := 10) dX5_requireWithin_7 (by decide) rfl (fun c_7 => absurd c_7 (fun z => hx.elim (fun y => absurd y c_2) (fun y => y z))) (fun c_7 => ?_)
    refine mj_budget (mc1 := 1 + 0) (ms1 := 6 + 0) (by omega) (by omega) ?_
    exact mj_throwW (M := m_X5_requireWithin) (is := 326) (text := "out of its bounds") (nx := 0) rfl dX5_requireWithin_10 dX5_requireWithin_13 dX5_requireWithin_14 dX5_requireWithin_17 dX5_requireWithin_20 (by decide +kernel) cl_X5_324 ini_IAE str_within (fun s a ht z => at_IAE s a ht z) go_IAE (by omega) (Nat.le_of_ble_eq_true rfl) ⟨rfl, rfl⟩
set_option maxHeartbeats 100000 in
set_option maxRecDepth 100000 in
theorem s_requireLift {d n : Nat} {v : Int32} {K : Nat → mj_K} {f : Nat → Nat → Int32} {g : Nat → Nat → Option Nat} (k1 : K 2 = (2, 7, 0)) (g1 : g 2 0 = some 3) (k2 : K 3 = (2, 3, 0)) (f2 : f 3 = v0M) : mj_Rx m_X5_requireLift (d + 6) 1 6 [.ref 2, .int v] (n, K, f, g) (fun n1 h1 => n1 = 1 ∧ h1 = (n, K, f, g)) := by
  refine mj_entry (by refine ⟨by decide +kernel, by decide, rfl, Nat.le_of_ble_eq_true rfl⟩) ?_
  show mj_W _ _ _ _ _ 0 [.ref 2, .int v] [] _
  refine mj_iload_n (i := 1) (q := 1) dX5_requireLift_0 rfl rfl rfl ?_
  refine mj_if_lt (tgt := 15) (q := 4) dX5_requireLift_1 (by decide) rfl (fun c_1 => ?_) (fun c_1 => ?_)
  · refine mj_budget (mc1 := 1 + 0) (ms1 := 6 + 0) (by omega) (by omega) ?_
    exact mj_throwW (M := m_X5_requireLift) (is := 329) (text := "no such lift") (nx := 1) rfl dX5_requireLift_15 dX5_requireLift_18 dX5_requireLift_19 dX5_requireLift_22 dX5_requireLift_25 (by decide +kernel) cl_X5_226 ini_IOB str_lift (fun s a ht z => at_IOB s a ht z) go_IOB (by omega) (Nat.le_of_ble_eq_true rfl) ⟨rfl, rfl⟩
  · refine mj_iload_n (i := 1) (q := 5) dX5_requireLift_4 rfl rfl rfl ?_
    refine mj_aload_n (i := 0) (q := 6) dX5_requireLift_5 rfl rfl rfl ?_
    refine mj_getr (x := 0) (q := 9) dX5_requireLift_6 fl_X5_10 rfl rfl (by first | assumption | simp [mj_up, mj_upl, mj_row, *]) (by first | assumption | simp [mj_up, mj_upl, mj_row, *]) ?_
    refine mj_getfv (x := 0) (v := 0) (q := 12) dX5_requireLift_9 fl_X5_33 rfl rfl (by first | assumption | simp [mj_up, mj_upl, mj_row, *]) (by rw [f2]; rfl) ?_
    refine mj_icmp_lt (tgt := 26) (q := 15) dX5_requireLift_12 (by decide) rfl (fun c_12 => absurd c_12 c_1) (fun c_12 => ?_)
    refine mj_budget (mc1 := 1 + 0) (ms1 := 6 + 0) (by omega) (by omega) ?_
    exact mj_throwW (M := m_X5_requireLift) (is := 329) (text := "no such lift") (nx := 1) rfl dX5_requireLift_15 dX5_requireLift_18 dX5_requireLift_19 dX5_requireLift_22 dX5_requireLift_25 (by decide +kernel) cl_X5_226 ini_IOB str_lift (fun s a ht z => at_IOB s a ht z) go_IOB (by omega) (Nat.le_of_ble_eq_true rfl) ⟨rfl, rfl⟩
set_option maxHeartbeats 100000 in
set_option maxRecDepth 100000 in
theorem s_requireRun {d n : Nat} {v : Int32} {K : Nat → mj_K} {f : Nat → Nat → Int32} {g : Nat → Nat → Option Nat} (k1 : K 2 = (2, 7, 0)) (g1 : g 2 0 = some 3) (k2 : K 3 = (2, 3, 0)) (f2 : f 3 = v0M) : mj_Rx m_X5_requireRun (d + 6) 1 6 [.ref 2, .int v] (n, K, f, g) (fun n1 h1 => n1 = 1 ∧ h1 = (n, K, f, g)) := by
  refine mj_entry (by refine ⟨by decide +kernel, by decide, rfl, Nat.le_of_ble_eq_true rfl⟩) ?_
  show mj_W _ _ _ _ _ 0 [.ref 2, .int v] [] _
  refine mj_iload_n (i := 1) (q := 1) dX5_requireRun_0 rfl rfl rfl ?_
  refine mj_if_lt (tgt := 15) (q := 4) dX5_requireRun_1 (by decide) rfl (fun c_1 => ?_) (fun c_1 => ?_)
  · refine mj_budget (mc1 := 1 + 0) (ms1 := 6 + 0) (by omega) (by omega) ?_
    exact mj_throwW (M := m_X5_requireRun) (is := 331) (text := "no such run") (nx := 1) rfl dX5_requireRun_15 dX5_requireRun_18 dX5_requireRun_19 dX5_requireRun_22 dX5_requireRun_25 (by decide +kernel) cl_X5_226 ini_IOB str_run (fun s a ht z => at_IOB s a ht z) go_IOB (by omega) (Nat.le_of_ble_eq_true rfl) ⟨rfl, rfl⟩
  · refine mj_iload_n (i := 1) (q := 5) dX5_requireRun_4 rfl rfl rfl ?_
    refine mj_aload_n (i := 0) (q := 6) dX5_requireRun_5 rfl rfl rfl ?_
    refine mj_getr (x := 0) (q := 9) dX5_requireRun_6 fl_X5_10 rfl rfl (by first | assumption | simp [mj_up, mj_upl, mj_row, *]) (by first | assumption | simp [mj_up, mj_upl, mj_row, *]) ?_
    refine mj_getfv (x := 0) (v := 0) (q := 12) dX5_requireRun_9 fl_X5_60 rfl rfl (by first | assumption | simp [mj_up, mj_upl, mj_row, *]) (by rw [f2]; rfl) ?_
    refine mj_icmp_lt (tgt := 26) (q := 15) dX5_requireRun_12 (by decide) rfl (fun c_12 => absurd c_12 c_1) (fun c_12 => ?_)
    refine mj_budget (mc1 := 1 + 0) (ms1 := 6 + 0) (by omega) (by omega) ?_
    exact mj_throwW (M := m_X5_requireRun) (is := 331) (text := "no such run") (nx := 1) rfl dX5_requireRun_15 dX5_requireRun_18 dX5_requireRun_19 dX5_requireRun_22 dX5_requireRun_25 (by decide +kernel) cl_X5_226 ini_IOB str_run (fun s a ht z => at_IOB s a ht z) go_IOB (by omega) (Nat.le_of_ble_eq_true rfl) ⟨rfl, rfl⟩
