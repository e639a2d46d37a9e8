/-! THE REFERENCE: its constructors, and its calls on a fresh object -/
def v0Y : Nat → Int32 := fun j => if j = 10 then -1 else if j = 3 then 500 else 0
def v0X : Nat → Int32 := fun j => if j = 4 then 100 else if j = 2 then 50 else 0
set_option maxHeartbeats 100000 in
set_option maxRecDepth 100000 in
theorem s_X6_init {d m : Nat} {K : Nat → mj_K} {f : Nat → Nat → Int32} {g : Nat → Nat → Option Nat} (hK : K m = (2, 8, 0)) (hf : f m = fun _ => 0) (hm : 0 < m) : mj_Rv m_X6_init (d + 4) 2 6 [.ref m] (m + 1, K, f, g) (fun h1 => ∃ K1 f1 g1, h1 = (m + 3, K1, f1, g1) ∧ mj_old m K K1 f f1 g g1 ∧ K1 m = (2, 8, 0) ∧ g1 m 0 = some (m + 1) ∧ g1 m 1 = some (m + 2) ∧ f1 m = v0Y ∧ (K1 (m + 1) = (2, 1, 0) ∧ f1 (m + 1) 2 = 0 ∧ g1 (m + 1) 1 = some 1) ∧ K1 (m + 2) = (2, 1, 0) ∧ f1 (m + 2) 2 = 0 ∧ g1 (m + 2) 1 = some 1) := by
  refine mj_entry (by refine ⟨by decide +kernel, by decide, rfl, Nat.le_of_ble_eq_true rfl⟩) ?_
  show mj_W _ _ _ _ _ 0 [.ref m] [] _
  refine mj_aload_n (i := 0) (q := 1) dX6_init_0 rfl rfl rfl ?_
  refine mj_objInit (q := 4) dX6_init_1 ln_X6_3 (Nat.le_of_ble_eq_true rfl) rfl ?_
  refine mj_aload_n (i := 0) (q := 5) dX6_init_4 rfl rfl rfl ?_
  refine mj_newB (ci := 1) (mc := 1) (ms := 3) (q := 8) dX6_init_5 (by decide) cl_X6_9 in_Jx4a65c rfl rfl rfl ?_
  refine mj_dup (q := 9) rfl dX6_init_8 rfl ?_
  refine mj_kI0v (K := m_Jx4a65c_init_da8c8) (q := 12) (mc1 := 0) (ms1 := 0) (mc := 1) (ms := 3) dX6_init_9 ln_X6_11 ok_Jx4a65c_init_da8c8 (Nat.le_of_ble_eq_true rfl) (by decide) rfl rfl rfl (s_list (a := m + 1) mj_rows (by omega)) (fun h1 hq => ?_)
  subst hq
  refine mj_putr (x := 0) (q := 15) dX6_init_12 fl_X6_12 rfl rfl (by first | assumption | exact mj_rows | (rw [mj_rown (by omega)]; first | assumption | exact mj_rows) | (rw [mj_rown (by omega), mj_rown (by omega)]; assumption)) rfl rfl rfl (fun _ => rfl) (fun _ => rfl) ?_
  refine mj_aload_n (i := 0) (q := 16) dX6_init_15 rfl rfl rfl ?_
  refine mj_newB (ci := 1) (mc := 0) (ms := 0) (q := 19) dX6_init_16 (by decide) cl_X6_9 in_Jx4a65c rfl rfl rfl ?_
  refine mj_dup (q := 20) rfl dX6_init_19 rfl ?_
  refine mj_kI0v (K := m_Jx4a65c_init_da8c8) (q := 23) (mc1 := 0) (ms1 := 0) (mc := 0) (ms := 0) dX6_init_20 ln_X6_11 ok_Jx4a65c_init_da8c8 (Nat.le_of_ble_eq_true rfl) (by decide) rfl rfl rfl (s_list (a := m + 1 + 1) mj_rows (by omega)) (fun h1 hq => ?_)
  subst hq
  refine mj_putr (x := 0) (q := 26) dX6_init_23 fl_X6_18 rfl rfl (by first | assumption | exact mj_rows | (rw [mj_rown (by omega)]; first | assumption | exact mj_rows) | (rw [mj_rown (by omega), mj_rown (by omega)]; assumption)) rfl rfl rfl (fun _ => rfl) (fun _ => rfl) ?_
  refine mj_aload_n (i := 0) (q := 27) dX6_init_26 rfl rfl rfl ?_
  refine mj_num3 (v := 500) (q := 30) (by decide) dX6_init_27 rfl ?_
  refine mj_putf (x := 0) (q := 33) dX6_init_30 fl_X6_21 rfl rfl (by first | assumption | exact mj_rows | (rw [mj_rown (by omega)]; first | assumption | exact mj_rows) | (rw [mj_rown (by omega), mj_rown (by omega)]; assumption)) rfl rfl rfl ?_
  refine mj_aload_n (i := 0) (q := 34) dX6_init_33 rfl rfl rfl ?_
  refine mj_num1 (v := (-1)) (q := 35) rfl dX6_init_34 rfl ?_
  refine mj_putf (x := 0) (q := 38) dX6_init_35 fl_X6_25 rfl rfl (by first | assumption | exact mj_rows | (rw [mj_rown (by omega)]; first | assumption | exact mj_rows) | (rw [mj_rown (by omega), mj_rown (by omega)]; assumption)) rfl rfl rfl ?_
  refine mj_return dX6_init_38 rfl ⟨rfl, _, _, _, rfl, ?_, ?_, ?_, ?_, ?_, ⟨?_, ?_, ?_⟩, ?_, ?_, ?_⟩
  · intro a ha
    refine ⟨?_, ?_, ?_⟩ <;> (repeat (first | rw [mj_rown (by omega)] | rw [mj_upr (by omega)]))
  · (repeat rw [mj_rown (by omega)]); exact hK
  · rw [mj_upn (Or.inr (by decide)), mj_upn (Or.inl (by omega)), mj_rown (by omega), mj_ups]
  · simp [mj_up, mj_row]
  · have e1 : ¬ m = m + 1 + 1 := by omega
    funext j; simp [mj_up, mj_row, hf, v0Y, e1]
  · simp [mj_row]
  · simp [mj_up, mj_row]
  · simp [mj_up, mj_row]
  · simp [mj_row]
  · simp [mj_up, mj_row]
  · simp [mj_up, mj_row]
set_option maxHeartbeats 100000 in
set_option maxRecDepth 100000 in
theorem s_X7_init {d x : Nat} {K : Nat → mj_K} {f : Nat → Nat → Int32} {g : Nat → Nat → Option Nat} (hK : K x = (2, 9, 0)) (hf : f x = fun _ => 0) : mj_Rv m_X7_init (d + 5) 3 18 [.ref x] (x + 1, K, f, g) (fun h1 => ∃ K1 f1 g1, h1 = (x + 4, K1, f1, g1) ∧ mj_old x K K1 f f1 g g1 ∧ K1 x = (2, 9, 0) ∧ g1 x 1 = some (x + 1) ∧ f1 x 2 = 50 ∧ f1 x 4 = 100 ∧ K1 (x + 1) = (2, 8, 0) ∧ g1 (x + 1) 0 = some (x + 2) ∧ g1 (x + 1) 1 = some (x + 3) ∧ f1 (x + 1) = v0Y ∧ (K1 (x + 2) = (2, 1, 0) ∧ f1 (x + 2) 2 = 0 ∧ g1 (x + 2) 1 = some 1) ∧ K1 (x + 3) = (2, 1, 0) ∧ f1 (x + 3) 2 = 0 ∧ g1 (x + 3) 1 = some 1) := by
  refine mj_entry (by refine ⟨by decide +kernel, by decide, rfl, Nat.le_of_ble_eq_true rfl⟩) ?_
  show mj_W _ _ _ _ _ 0 [.ref x] [] _
  refine mj_aload_n (i := 0) (q := 1) dX7_init_0 rfl rfl rfl ?_
  refine mj_objInit (q := 4) dX7_init_1 ln_X7_3 (Nat.le_of_ble_eq_true rfl) rfl ?_
  refine mj_aload_n (i := 0) (q := 5) dX7_init_4 rfl rfl rfl ?_
  refine mj_newB (ci := 8) (mc := 2) (ms := 6) (q := 8) dX7_init_5 (by decide) cl_X7_9 in_X6 rfl rfl rfl ?_
  refine mj_dup (q := 9) rfl dX7_init_8 rfl ?_
  refine mj_kIN0v (K := m_X6_init) (q := 12) (mc1 := 2) (ms1 := 6) (mc := 0) (ms := 0) dX7_init_9 (fun _ z => mj_XW.nm_X7_11 z) ok_X6_init (Nat.le_of_ble_eq_true rfl) (by decide) rfl rfl rfl (s_X6_init (m := x + 1) mj_rows mj_rows (by omega)) (fun h1 hq => ?_)
  obtain ⟨K1, f1, g1, rfl, hO, q1, q2, q3, q4, ⟨q51, q52, q53⟩, q61, q62, q63⟩ := hq
  have k1 : K1 x = (2, 9, 0) := by rw [(hO x (by omega)).1, mj_rown (by omega)]; exact hK
  refine mj_putr (x := 0) (q := 15) dX7_init_12 fl_X7_12 rfl rfl (by first | assumption | simp [mj_up, mj_upl, mj_row, *]) rfl rfl rfl (fun _ => rfl) (fun _ => rfl) ?_
  refine mj_aload_n (i := 0) (q := 16) dX7_init_15 rfl rfl rfl ?_
  refine mj_num2 (v := 50) (q := 18) (by decide) dX7_init_16 rfl ?_
  refine mj_putf (x := 0) (q := 21) dX7_init_18 fl_X7_16 rfl rfl (by first | assumption | simp [mj_up, mj_upl, mj_row, *]) rfl rfl rfl ?_
  refine mj_aload_n (i := 0) (q := 22) dX7_init_21 rfl rfl rfl ?_
  refine mj_num2 (v := 100) (q := 24) (by decide) dX7_init_22 rfl ?_
  refine mj_putf (x := 0) (q := 27) dX7_init_24 fl_X7_20 rfl rfl (by first | assumption | simp [mj_up, mj_upl, mj_row, *]) rfl rfl rfl ?_
  refine mj_return dX7_init_27 rfl ⟨rfl, _, _, _, rfl, ?_, k1, mj_ups, ?_, ?_, q1, ?_, ?_, ?_, ⟨q51, ?_, ?_⟩, q61, ?_, ?_⟩
  · intro a ha
    have h9 := hO a (by omega)
    rw [mj_rown (by omega), mj_rown (by omega), mj_rown (by omega)] at h9
    exact ⟨h9.1, by (repeat rw [mj_upr (by omega)]); exact h9.2.1, by rw [mj_upr (by omega)]; exact h9.2.2⟩
  · simp [mj_up]
  · simp [mj_up]
  · rw [mj_upr (by omega)]; exact q2
  · rw [mj_upr (by omega)]; exact q3
  · (repeat rw [mj_upr (by omega)]); exact q4
  · (repeat rw [mj_upr (by omega)]); exact q52
  · rw [mj_upr (by omega)]; exact q53
  · (repeat rw [mj_upr (by omega)]); exact q62
  · rw [mj_upr (by omega)]; exact q63
theorem v_neg (v : Int32) : v < 0 ∨ ¬ v ≤ 0 - 1 := by
  by_cases h : v < 0
  · exact Or.inl h
  · exact Or.inr (fun z => h (Int32.lt_of_le_of_lt z (by decide)))
set_option maxHeartbeats 100000 in
set_option maxRecDepth 100000 in
theorem s_is1 {d : Nat} {v lo hi : Int32} {h : mj_H} (h1 : ¬ v < lo) (h2 : v ≤ hi) : mj_Ri m_X7_is (d + 1) 0 0 [.int v, .int lo, .int hi] h (fun r h1 => r = 1 ∧ h1 = h) := by
  refine mj_entry (by refine ⟨by decide +kernel, by decide, rfl, Nat.le_of_ble_eq_true rfl⟩) ?_
  show mj_W _ _ _ _ _ 0 [.int v, .int lo, .int hi] [] _
  refine mj_iload_n (i := 0) (q := 1) dX7_is_0 rfl rfl rfl ?_
  refine mj_iload_n (i := 1) (q := 2) dX7_is_1 rfl rfl rfl ?_
  refine mj_icmp_lt (tgt := 14) (q := 5) dX7_is_2 (by decide) rfl (fun c_2 => absurd c_2 h1) (fun c_2 => ?_)
  refine mj_iload_n (i := 0) (q := 6) dX7_is_5 rfl rfl rfl ?_
  refine mj_iload_n (i := 2) (q := 7) dX7_is_6 rfl rfl rfl ?_
  refine mj_icmp_gt (tgt := 14) (q := 10) dX7_is_7 (by decide) rfl (fun c_7 => absurd h2 (Int32.not_le.mpr c_7)) (fun c_7 => ?_)
  refine mj_num1 (v := 1) (q := 11) rfl dX7_is_10 rfl ?_
  refine mj_goto (q := 15) dX7_is_11 (by decide) ?_
  exact mj_ireturn dX7_is_15 ⟨_, rfl, rfl⟩ ⟨_, rfl, ⟨rfl, rfl⟩⟩
set_option maxHeartbeats 100000 in
set_option maxRecDepth 100000 in
theorem s_is0 {d : Nat} {v lo hi : Int32} {h : mj_H} (hx : v < lo ∨ ¬ v ≤ hi) : mj_Ri m_X7_is (d + 1) 0 0 [.int v, .int lo, .int hi] h (fun r h1 => r = 0 ∧ h1 = h) := by
  refine mj_entry (by refine ⟨by decide +kernel, by decide, rfl, Nat.le_of_ble_eq_true rfl⟩) ?_
  show mj_W _ _ _ _ _ 0 [.int v, .int lo, .int hi] [] _
  refine mj_iload_n (i := 0) (q := 1) dX7_is_0 rfl rfl rfl ?_
  refine mj_iload_n (i := 1) (q := 2) dX7_is_1 rfl rfl rfl ?_
  refine mj_icmp_lt (tgt := 14) (q := 5) dX7_is_2 (by decide) rfl (fun c_2 => ?_) (fun c_2 => ?_)
  · refine mj_num1 (v := 0) (q := 15) rfl dX7_is_14 rfl ?_
    exact mj_ireturn dX7_is_15 ⟨_, rfl, rfl⟩ ⟨_, rfl, ⟨rfl, rfl⟩⟩
  · refine mj_iload_n (i := 0) (q := 6) dX7_is_5 rfl rfl rfl ?_
    refine mj_iload_n (i := 2) (q := 7) dX7_is_6 rfl rfl rfl ?_
    refine mj_icmp_gt (tgt := 14) (q := 10) dX7_is_7 (by decide) rfl (fun c_7 => ?_) (fun c_7 => absurd (Int32.not_le.mp (hx.resolve_left c_2)) c_7)
    refine mj_num1 (v := 0) (q := 15) rfl dX7_is_14 rfl ?_
    exact mj_ireturn dX7_is_15 ⟨_, rfl, rfl⟩ ⟨_, rfl, ⟨rfl, rfl⟩⟩
set_option maxHeartbeats 100000 in
set_option maxRecDepth 100000 in
theorem s_isLift {d n : Nat} {v : Int32} {K : Nat → mj_K} {f : Nat → Nat → Int32} {g : Nat → Nat → Option Nat} (kX : K 145 = (2, 9, 0)) (gX : g 145 1 = some 146) (kY : K 146 = (2, 8, 0)) (gL : g 146 0 = some 147) (gR : g 146 1 = some 148) (kL : K 147 = (2, 1, 0)) (kR : K 148 = (2, 1, 0)) (fL : f 147 2 = 0) (fR : f 148 2 = 0) : mj_Ri m_X7_isLift (d + 2) 0 0 [.ref 145, .int v] (n, K, f, g) (fun r h1 => r = 0 ∧ h1 = (n, K, f, g)) := by
  refine mj_entry (by refine ⟨by decide +kernel, by decide, rfl, Nat.le_of_ble_eq_true rfl⟩) ?_
  show mj_W _ _ _ _ _ 0 [.ref 145, .int v] [] _
  refine mj_iload_n (i := 1) (q := 1) dX7_isLift_0 rfl rfl rfl ?_
  refine mj_num1 (v := 0) (q := 2) rfl dX7_isLift_1 rfl ?_
  refine mj_aload_n (i := 0) (q := 3) dX7_isLift_2 rfl rfl rfl ?_
  refine mj_getr (x := 0) (q := 6) dX7_isLift_3 fl_X7_12 rfl rfl (by first | assumption | simp [mj_up, mj_upl, mj_row, *]) (by first | assumption | simp [mj_up, mj_upl, mj_row, *]) ?_
  refine mj_getrN (x := 0) (q := 9) dX7_isLift_6 fn_X7_68 rfl rfl (by first | assumption | simp [mj_up, mj_upl, mj_row, *]) (by first | assumption | simp [mj_up, mj_upl, mj_row, *]) ?_
  refine mj_kV0i (K := m_Jx4a65c_size_8abf5) (q := 12) (mc1 := 0) (ms1 := 0) (mc := 0) (ms := 0) dX7_isLift_9 ln_X7_72 ok_Jx4a65c_size_8abf5 (Nat.le_of_ble_eq_true rfl) (by decide) (mj_rc2 (x := 0) (ci := 1) (by first | assumption | simp [mj_up, mj_upl, mj_row, *]) rfl) rfl rfl rfl (s_size (a := 147) (by assumption)) (fun r_9 h1 hq => ?_)
  obtain ⟨rfl, rfl⟩ := hq
  rw [fL]
  refine mj_num1 (v := 1) (q := 13) rfl dX7_isLift_12 rfl ?_
  refine mj_isub (q := 14) dX7_isLift_13 rfl ?_
  refine mj_kS3i (K := m_X7_is) (q := 17) (mc1 := 0) (ms1 := 0) (mc := 0) (ms := 0) dX7_isLift_14 ln_X7_78 ok_X7_is (Nat.le_of_ble_eq_true rfl) (by decide) rfl rfl rfl (s_is0 (v_neg v)) (fun r_14 h1 hq => ?_)
  obtain ⟨rfl, rfl⟩ := hq
  exact mj_ireturn dX7_isLift_17 ⟨_, rfl, rfl⟩ ⟨_, rfl, ⟨rfl, rfl⟩⟩
set_option maxHeartbeats 100000 in
set_option maxRecDepth 100000 in
theorem s_isRun {d n : Nat} {v : Int32} {K : Nat → mj_K} {f : Nat → Nat → Int32} {g : Nat → Nat → Option Nat} (kX : K 145 = (2, 9, 0)) (gX : g 145 1 = some 146) (kY : K 146 = (2, 8, 0)) (gL : g 146 0 = some 147) (gR : g 146 1 = some 148) (kL : K 147 = (2, 1, 0)) (kR : K 148 = (2, 1, 0)) (fL : f 147 2 = 0) (fR : f 148 2 = 0) : mj_Ri m_X7_isRun (d + 2) 0 0 [.ref 145, .int v] (n, K, f, g) (fun r h1 => r = 0 ∧ h1 = (n, K, f, g)) := by
  refine mj_entry (by refine ⟨by decide +kernel, by decide, rfl, Nat.le_of_ble_eq_true rfl⟩) ?_
  show mj_W _ _ _ _ _ 0 [.ref 145, .int v] [] _
  refine mj_iload_n (i := 1) (q := 1) dX7_isRun_0 rfl rfl rfl ?_
  refine mj_num1 (v := 0) (q := 2) rfl dX7_isRun_1 rfl ?_
  refine mj_aload_n (i := 0) (q := 3) dX7_isRun_2 rfl rfl rfl ?_
  refine mj_getr (x := 0) (q := 6) dX7_isRun_3 fl_X7_12 rfl rfl (by first | assumption | simp [mj_up, mj_upl, mj_row, *]) (by first | assumption | simp [mj_up, mj_upl, mj_row, *]) ?_
  refine mj_getrN (x := 0) (q := 9) dX7_isRun_6 fn_X7_82 rfl rfl (by first | assumption | simp [mj_up, mj_upl, mj_row, *]) (by first | assumption | simp [mj_up, mj_upl, mj_row, *]) ?_
  refine mj_kV0i (K := m_Jx4a65c_size_8abf5) (q := 12) (mc1 := 0) (ms1 := 0) (mc := 0) (ms := 0) dX7_isRun_9 ln_X7_72 ok_Jx4a65c_size_8abf5 (Nat.le_of_ble_eq_true rfl) (by decide) (mj_rc2 (x := 0) (ci := 1) (by first | assumption | simp [mj_up, mj_upl, mj_row, *]) rfl) rfl rfl rfl (s_size (a := 148) (by assumption)) (fun r_9 h1 hq => ?_)
  obtain ⟨rfl, rfl⟩ := hq
  rw [fR]
  refine mj_num1 (v := 1) (q := 13) rfl dX7_isRun_12 rfl ?_
  refine mj_isub (q := 14) dX7_isRun_13 rfl ?_
  refine mj_kS3i (K := m_X7_is) (q := 17) (mc1 := 0) (ms1 := 0) (mc := 0) (ms := 0) dX7_isRun_14 ln_X7_78 ok_X7_is (Nat.le_of_ble_eq_true rfl) (by decide) rfl rfl rfl (s_is0 (v_neg v)) (fun r_14 h1 hq => ?_)
  obtain ⟨rfl, rfl⟩ := hq
  exact mj_ireturn dX7_isRun_17 ⟨_, rfl, rfl⟩ ⟨_, rfl, ⟨rfl, rfl⟩⟩
set_option maxHeartbeats 100000 in
set_option maxRecDepth 100000 in
theorem s_refuse {d n : Nat} {v : Int32} {K : Nat → mj_K} {f : Nat → Nat → Int32} {g : Nat → Nat → Option Nat} (kX : K 145 = (2, 9, 0)) : mj_Ri m_X7_refuse (d + 1) 0 0 [.ref 145, .int v] (n, K, f, g) (fun r h1 => r = 0 ∧ h1 = (n, K, mj_up f 145 0 v, g)) := by
  refine mj_entry (by refine ⟨by decide +kernel, by decide, rfl, Nat.le_of_ble_eq_true rfl⟩) ?_
  show mj_W _ _ _ _ _ 0 [.ref 145, .int v] [] _
  refine mj_aload_n (i := 0) (q := 1) dX7_refuse_0 rfl rfl rfl ?_
  refine mj_iload_n (i := 1) (q := 2) dX7_refuse_1 rfl rfl rfl ?_
  refine mj_putf (x := 0) (q := 5) dX7_refuse_2 fl_X7_23 rfl rfl (by first | assumption | simp [mj_up, mj_upl, mj_row, *]) rfl rfl rfl ?_
  refine mj_num1 (v := 0) (q := 6) rfl dX7_refuse_5 rfl ?_
  exact mj_ireturn dX7_refuse_6 ⟨_, rfl, rfl⟩ ⟨_, rfl, ⟨rfl, rfl⟩⟩
set_option maxHeartbeats 100000 in
set_option maxRecDepth 100000 in
theorem s_thrown {d n : Nat} {K : Nat → mj_K} {f : Nat → Nat → Int32} {g : Nat → Nat → Option Nat} (kX : K 145 = (2, 9, 0)) : mj_Ri m_X7_thrown (d + 1) 0 0 [.ref 145] (n, K, f, g) (fun r h1 => r = f 145 0 ∧ h1 = (n, K, f, g)) := by
  refine mj_entry (by refine ⟨by decide +kernel, by decide, rfl, Nat.le_of_ble_eq_true rfl⟩) ?_
  show mj_W _ _ _ _ _ 0 [.ref 145] [] _
  refine mj_aload_n (i := 0) (q := 1) dX7_thrown_0 rfl rfl rfl ?_
  refine mj_getf (x := 0) (q := 4) dX7_thrown_1 fl_X7_23 rfl rfl (by first | assumption | simp [mj_up, mj_upl, mj_row, *]) ?_
  exact mj_ireturn dX7_thrown_4 ⟨_, rfl, rfl⟩ ⟨_, rfl, ⟨rfl, rfl⟩⟩
set_option maxHeartbeats 100000 in
set_option maxRecDepth 100000 in
theorem r_run {d n : Nat} {v1 v2 v3 v4 v5 : Int32} {K : Nat → mj_K} {f : Nat → Nat → Int32} {g : Nat → Nat → Option Nat} (kX : K 145 = (2, 9, 0)) (gX : g 145 1 = some 146) (kY : K 146 = (2, 8, 0)) (gL : g 146 0 = some 147) (gR : g 146 1 = some 148) (kL : K 147 = (2, 1, 0)) (kR : K 148 = (2, 1, 0)) (fL : f 147 2 = 0) (fR : f 148 2 = 0) : mj_Ri m_X7_run (d + 3) 0 0 [.ref 145, .int v1, .int v2, .int v3, .int v4, .int v5] (n, K, f, g) (fun r h1 => r = 0 ∧ ∃ n1 K1 f1 g1, h1 = (n1, K1, f1, g1) ∧ K1 145 = (2, 9, 0) ∧ f1 145 0 = 1 ∧ K1 149 = K 149 ∧ f1 149 = f 149 ∧ K1 0 = K 0) := by
  refine mj_entry (by refine ⟨by decide +kernel, by decide, rfl, Nat.le_of_ble_eq_true rfl⟩) ?_
  show mj_W _ _ _ _ _ 0 [.ref 145, .int v1, .int v2, .int v3, .int v4, .int v5, .null] [] _
  refine mj_aload_n (i := 0) (q := 1) dX7_run_0 rfl rfl rfl ?_
  refine mj_num1 (v := 0) (q := 2) rfl dX7_run_1 rfl ?_
  refine mj_putf (x := 0) (q := 5) dX7_run_2 fl_X7_23 rfl rfl (by first | assumption | simp [mj_up, mj_upl, mj_row, *]) rfl rfl rfl ?_
  refine mj_aload_n (i := 0) (q := 6) dX7_run_5 rfl rfl rfl ?_
  refine mj_iload_n (i := 1) (q := 7) dX7_run_6 rfl rfl rfl ?_
  refine mj_kV1i (K := m_X7_isLift) (q := 10) (mc1 := 0) (ms1 := 0) (mc := 0) (ms := 0) dX7_run_7 ln_X7_103 ok_X7_isLift (Nat.le_of_ble_eq_true rfl) (by decide) (mj_rc2 (x := 0) (ci := 9) (by first | assumption | simp [mj_up, mj_upl, mj_row, *]) rfl) rfl rfl rfl (s_isLift kX gX kY gL gR kL kR (by rw [mj_upr (by decide)]; exact fL) (by rw [mj_upr (by decide)]; exact fR)) (fun r_7 h1 hq => ?_)
  obtain ⟨rfl, rfl⟩ := hq
  refine mj_if_ne (tgt := 19) (q := 13) dX7_run_10 (by decide) rfl (fun c_10 => absurd (by decide) c_10) (fun c_10 => ?_)
  refine mj_aload_n (i := 0) (q := 14) dX7_run_13 rfl rfl rfl ?_
  refine mj_num1 (v := 1) (q := 15) rfl dX7_run_14 rfl ?_
  refine mj_kV1i (K := m_X7_refuse) (q := 18) (mc1 := 0) (ms1 := 0) (mc := 0) (ms := 0) dX7_run_15 ln_X7_95 ok_X7_refuse (Nat.le_of_ble_eq_true rfl) (by decide) (mj_rc2 (x := 0) (ci := 9) (by first | assumption | simp [mj_up, mj_upl, mj_row, *]) rfl) rfl rfl rfl (s_refuse kX) (fun r_15 h1 hq => ?_)
  obtain ⟨rfl, rfl⟩ := hq
  exact mj_ireturn dX7_run_18 ⟨_, rfl, rfl⟩ ⟨_, rfl, ⟨rfl, _, _, _, _, rfl, kX, mj_ups, rfl, by (repeat rw [mj_upr (by decide)]), rfl⟩⟩
set_option maxHeartbeats 100000 in
set_option maxRecDepth 100000 in
theorem r_turn {d n : Nat} {v1 v2 : Int32} {K : Nat → mj_K} {f : Nat → Nat → Int32} {g : Nat → Nat → Option Nat} (kX : K 145 = (2, 9, 0)) (gX : g 145 1 = some 146) (kY : K 146 = (2, 8, 0)) (gL : g 146 0 = some 147) (gR : g 146 1 = some 148) (kL : K 147 = (2, 1, 0)) (kR : K 148 = (2, 1, 0)) (fL : f 147 2 = 0) (fR : f 148 2 = 0) : mj_Ri m_X7_turn (d + 3) 0 0 [.ref 145, .int v1, .int v2] (n, K, f, g) (fun r h1 => r = 0 ∧ ∃ n1 K1 f1 g1, h1 = (n1, K1, f1, g1) ∧ K1 145 = (2, 9, 0) ∧ f1 145 0 = 1 ∧ K1 149 = K 149 ∧ f1 149 = f 149 ∧ K1 0 = K 0) := by
  refine mj_entry (by refine ⟨by decide +kernel, by decide, rfl, Nat.le_of_ble_eq_true rfl⟩) ?_
  show mj_W _ _ _ _ _ 0 [.ref 145, .int v1, .int v2, .null] [] _
  refine mj_aload_n (i := 0) (q := 1) dX7_turn_0 rfl rfl rfl ?_
  refine mj_aload_n (i := 0) (q := 2) dX7_turn_1 rfl rfl rfl ?_
  refine mj_iload_n (i := 1) (q := 3) dX7_turn_2 rfl rfl rfl ?_
  refine mj_kV1i (K := m_X7_isLift) (q := 6) (mc1 := 0) (ms1 := 0) (mc := 0) (ms := 0) dX7_turn_3 ln_X7_103 ok_X7_isLift (Nat.le_of_ble_eq_true rfl) (by decide) (mj_rc2 (x := 0) (ci := 9) (by first | assumption | simp [mj_up, mj_upl, mj_row, *]) rfl) rfl rfl rfl (s_isLift kX gX kY gL gR kL kR fL fR) (fun r_3 h1 hq => ?_)
  obtain ⟨rfl, rfl⟩ := hq
  refine mj_if_eq (tgt := 13) (q := 9) dX7_turn_6 (by decide) rfl (fun c_6 => ?_) (fun c_6 => absurd (by decide) c_6)
  refine mj_num1 (v := 1) (q := 14) rfl dX7_turn_13 rfl ?_
  refine mj_putf (x := 0) (q := 17) dX7_turn_14 fl_X7_23 rfl rfl (by first | assumption | simp [mj_up, mj_upl, mj_row, *]) rfl rfl rfl ?_
  refine mj_aload_n (i := 0) (q := 18) dX7_turn_17 rfl rfl rfl ?_
  refine mj_getfv (x := 0) (v := 1) (q := 21) dX7_turn_18 fl_X7_23 rfl rfl (by first | assumption | simp [mj_up, mj_upl, mj_row, *]) mj_ups ?_
  refine mj_if_le (tgt := 26) (q := 24) dX7_turn_21 (by decide) rfl (fun c_21 => absurd c_21 (by decide)) (fun c_21 => ?_)
  refine mj_num1 (v := 0) (q := 25) rfl dX7_turn_24 rfl ?_
  exact mj_ireturn dX7_turn_25 ⟨_, rfl, rfl⟩ ⟨_, rfl, ⟨rfl, _, _, _, _, rfl, kX, mj_ups, rfl, by (repeat rw [mj_upr (by decide)]), rfl⟩⟩
set_option maxHeartbeats 100000 in
set_option maxRecDepth 100000 in
theorem r_release {d n : Nat} {v1 : Int32} {K : Nat → mj_K} {f : Nat → Nat → Int32} {g : Nat → Nat → Option Nat} (kX : K 145 = (2, 9, 0)) (gX : g 145 1 = some 146) (kY : K 146 = (2, 8, 0)) (gL : g 146 0 = some 147) (gR : g 146 1 = some 148) (kL : K 147 = (2, 1, 0)) (kR : K 148 = (2, 1, 0)) (fL : f 147 2 = 0) (fR : f 148 2 = 0) : mj_Ri m_X7_release (d + 3) 0 0 [.ref 145, .int v1] (n, K, f, g) (fun r h1 => r = 0 ∧ ∃ n1 K1 f1 g1, h1 = (n1, K1, f1, g1) ∧ K1 145 = (2, 9, 0) ∧ f1 145 0 = 1 ∧ K1 149 = K 149 ∧ f1 149 = f 149 ∧ K1 0 = K 0) := by
  refine mj_entry (by refine ⟨by decide +kernel, by decide, rfl, Nat.le_of_ble_eq_true rfl⟩) ?_
  show mj_W _ _ _ _ _ 0 [.ref 145, .int v1, .null] [] _
  refine mj_aload_n (i := 0) (q := 1) dX7_release_0 rfl rfl rfl ?_
  refine mj_aload_n (i := 0) (q := 2) dX7_release_1 rfl rfl rfl ?_
  refine mj_iload_n (i := 1) (q := 3) dX7_release_2 rfl rfl rfl ?_
  refine mj_kV1i (K := m_X7_isLift) (q := 6) (mc1 := 0) (ms1 := 0) (mc := 0) (ms := 0) dX7_release_3 ln_X7_103 ok_X7_isLift (Nat.le_of_ble_eq_true rfl) (by decide) (mj_rc2 (x := 0) (ci := 9) (by first | assumption | simp [mj_up, mj_upl, mj_row, *]) rfl) rfl rfl rfl (s_isLift kX gX kY gL gR kL kR fL fR) (fun r_3 h1 hq => ?_)
  obtain ⟨rfl, rfl⟩ := hq
  refine mj_if_ne (tgt := 13) (q := 9) dX7_release_6 (by decide) rfl (fun c_6 => absurd (by decide) c_6) (fun c_6 => ?_)
  refine mj_num1 (v := 1) (q := 10) rfl dX7_release_9 rfl ?_
  refine mj_goto (q := 43) dX7_release_10 (by decide) ?_
  refine mj_putf (x := 0) (q := 46) dX7_release_43 fl_X7_23 rfl rfl (by first | assumption | simp [mj_up, mj_upl, mj_row, *]) rfl rfl rfl ?_
  refine mj_aload_n (i := 0) (q := 47) dX7_release_46 rfl rfl rfl ?_
  refine mj_getfv (x := 0) (v := 1) (q := 50) dX7_release_47 fl_X7_23 rfl rfl (by first | assumption | simp [mj_up, mj_upl, mj_row, *]) mj_ups ?_
  refine mj_if_le (tgt := 55) (q := 53) dX7_release_50 (by decide) rfl (fun c_50 => absurd c_50 (by decide)) (fun c_50 => ?_)
  refine mj_num1 (v := 0) (q := 54) rfl dX7_release_53 rfl ?_
  exact mj_ireturn dX7_release_54 ⟨_, rfl, rfl⟩ ⟨_, rfl, ⟨rfl, _, _, _, _, rfl, kX, mj_ups, rfl, by (repeat rw [mj_upr (by decide)]), rfl⟩⟩
set_option maxHeartbeats 100000 in
set_option maxRecDepth 100000 in
theorem r_guns {d n : Nat} {v1 v2 : Int32} {K : Nat → mj_K} {f : Nat → Nat → Int32} {g : Nat → Nat → Option Nat} (kX : K 145 = (2, 9, 0)) (gX : g 145 1 = some 146) (kY : K 146 = (2, 8, 0)) (gL : g 146 0 = some 147) (gR : g 146 1 = some 148) (kL : K 147 = (2, 1, 0)) (kR : K 148 = (2, 1, 0)) (fL : f 147 2 = 0) (fR : f 148 2 = 0) : mj_Ri m_X7_guns (d + 3) 0 0 [.ref 145, .int v1, .int v2] (n, K, f, g) (fun r h1 => r = 0 ∧ ∃ n1 K1 f1 g1, h1 = (n1, K1, f1, g1) ∧ K1 145 = (2, 9, 0) ∧ f1 145 0 = 1 ∧ K1 149 = K 149 ∧ f1 149 = f 149 ∧ K1 0 = K 0) := by
  refine mj_entry (by refine ⟨by decide +kernel, by decide, rfl, Nat.le_of_ble_eq_true rfl⟩) ?_
  show mj_W _ _ _ _ _ 0 [.ref 145, .int v1, .int v2, .null] [] _
  refine mj_aload_n (i := 0) (q := 1) dX7_guns_0 rfl rfl rfl ?_
  refine mj_num1 (v := 0) (q := 2) rfl dX7_guns_1 rfl ?_
  refine mj_putf (x := 0) (q := 5) dX7_guns_2 fl_X7_23 rfl rfl (by first | assumption | simp [mj_up, mj_upl, mj_row, *]) rfl rfl rfl ?_
  refine mj_aload_n (i := 0) (q := 6) dX7_guns_5 rfl rfl rfl ?_
  refine mj_iload_n (i := 1) (q := 7) dX7_guns_6 rfl rfl rfl ?_
  refine mj_kV1i (K := m_X7_isRun) (q := 10) (mc1 := 0) (ms1 := 0) (mc := 0) (ms := 0) dX7_guns_7 ln_X7_110 ok_X7_isRun (Nat.le_of_ble_eq_true rfl) (by decide) (mj_rc2 (x := 0) (ci := 9) (by first | assumption | simp [mj_up, mj_upl, mj_row, *]) rfl) rfl rfl rfl (s_isRun kX gX kY gL gR kL kR (by rw [mj_upr (by decide)]; exact fL) (by rw [mj_upr (by decide)]; exact fR)) (fun r_7 h1 hq => ?_)
  obtain ⟨rfl, rfl⟩ := hq
  refine mj_if_ne (tgt := 19) (q := 13) dX7_guns_10 (by decide) rfl (fun c_10 => absurd (by decide) c_10) (fun c_10 => ?_)
  refine mj_aload_n (i := 0) (q := 14) dX7_guns_13 rfl rfl rfl ?_
  refine mj_num1 (v := 1) (q := 15) rfl dX7_guns_14 rfl ?_
  refine mj_kV1i (K := m_X7_refuse) (q := 18) (mc1 := 0) (ms1 := 0) (mc := 0) (ms := 0) dX7_guns_15 ln_X7_95 ok_X7_refuse (Nat.le_of_ble_eq_true rfl) (by decide) (mj_rc2 (x := 0) (ci := 9) (by first | assumption | simp [mj_up, mj_upl, mj_row, *]) rfl) rfl rfl rfl (s_refuse kX) (fun r_15 h1 hq => ?_)
  obtain ⟨rfl, rfl⟩ := hq
  exact mj_ireturn dX7_guns_18 ⟨_, rfl, rfl⟩ ⟨_, rfl, ⟨rfl, _, _, _, _, rfl, kX, mj_ups, rfl, by (repeat rw [mj_upr (by decide)]), rfl⟩⟩
set_option maxHeartbeats 100000 in
set_option maxRecDepth 100000 in
theorem r_blast {d n : Nat} {v1 : Int32} {K : Nat → mj_K} {f : Nat → Nat → Int32} {g : Nat → Nat → Option Nat} (kX : K 145 = (2, 9, 0)) (gX : g 145 1 = some 146) (kY : K 146 = (2, 8, 0)) (gL : g 146 0 = some 147) (gR : g 146 1 = some 148) (kL : K 147 = (2, 1, 0)) (kR : K 148 = (2, 1, 0)) (fL : f 147 2 = 0) (fR : f 148 2 = 0) : mj_Ri m_X7_blast (d + 3) 0 0 [.ref 145, .int v1] (n, K, f, g) (fun r h1 => r = 0 ∧ ∃ n1 K1 f1 g1, h1 = (n1, K1, f1, g1) ∧ K1 145 = (2, 9, 0) ∧ f1 145 0 = 1 ∧ K1 149 = K 149 ∧ f1 149 = f 149 ∧ K1 0 = K 0) := by
  refine mj_entry (by refine ⟨by decide +kernel, by decide, rfl, Nat.le_of_ble_eq_true rfl⟩) ?_
  show mj_W _ _ _ _ _ 0 [.ref 145, .int v1] [] _
  refine mj_aload_n (i := 0) (q := 1) dX7_blast_0 rfl rfl rfl ?_
  refine mj_num1 (v := 0) (q := 2) rfl dX7_blast_1 rfl ?_
  refine mj_putf (x := 0) (q := 5) dX7_blast_2 fl_X7_23 rfl rfl (by first | assumption | simp [mj_up, mj_upl, mj_row, *]) rfl rfl rfl ?_
  refine mj_aload_n (i := 0) (q := 6) dX7_blast_5 rfl rfl rfl ?_
  refine mj_iload_n (i := 1) (q := 7) dX7_blast_6 rfl rfl rfl ?_
  refine mj_kV1i (K := m_X7_isRun) (q := 10) (mc1 := 0) (ms1 := 0) (mc := 0) (ms := 0) dX7_blast_7 ln_X7_110 ok_X7_isRun (Nat.le_of_ble_eq_true rfl) (by decide) (mj_rc2 (x := 0) (ci := 9) (by first | assumption | simp [mj_up, mj_upl, mj_row, *]) rfl) rfl rfl rfl (s_isRun kX gX kY gL gR kL kR (by rw [mj_upr (by decide)]; exact fL) (by rw [mj_upr (by decide)]; exact fR)) (fun r_7 h1 hq => ?_)
  obtain ⟨rfl, rfl⟩ := hq
  refine mj_if_ne (tgt := 19) (q := 13) dX7_blast_10 (by decide) rfl (fun c_10 => absurd (by decide) c_10) (fun c_10 => ?_)
  refine mj_aload_n (i := 0) (q := 14) dX7_blast_13 rfl rfl rfl ?_
  refine mj_num1 (v := 1) (q := 15) rfl dX7_blast_14 rfl ?_
  refine mj_kV1i (K := m_X7_refuse) (q := 18) (mc1 := 0) (ms1 := 0) (mc := 0) (ms := 0) dX7_blast_15 ln_X7_95 ok_X7_refuse (Nat.le_of_ble_eq_true rfl) (by decide) (mj_rc2 (x := 0) (ci := 9) (by first | assumption | simp [mj_up, mj_upl, mj_row, *]) rfl) rfl rfl rfl (s_refuse kX) (fun r_15 h1 hq => ?_)
  obtain ⟨rfl, rfl⟩ := hq
  exact mj_ireturn dX7_blast_18 ⟨_, rfl, rfl⟩ ⟨_, rfl, ⟨rfl, _, _, _, _, rfl, kX, mj_ups, rfl, by (repeat rw [mj_upr (by decide)]), rfl⟩⟩
set_option maxHeartbeats 100000 in
set_option maxRecDepth 100000 in
theorem r_search {d n : Nat} {v1 : Int32} {K : Nat → mj_K} {f : Nat → Nat → Int32} {g : Nat → Nat → Option Nat} (kX : K 145 = (2, 9, 0)) (gX : g 145 1 = some 146) (kY : K 146 = (2, 8, 0)) (gL : g 146 0 = some 147) (gR : g 146 1 = some 148) (kL : K 147 = (2, 1, 0)) (kR : K 148 = (2, 1, 0)) (fL : f 147 2 = 0) (fR : f 148 2 = 0) : mj_Ri m_X7_search (d + 3) 0 0 [.ref 145, .int v1] (n, K, f, g) (fun r h1 => r = 0 ∧ ∃ n1 K1 f1 g1, h1 = (n1, K1, f1, g1) ∧ K1 145 = (2, 9, 0) ∧ f1 145 0 = 1 ∧ K1 149 = K 149 ∧ f1 149 = f 149 ∧ K1 0 = K 0) := by
  refine mj_entry (by refine ⟨by decide +kernel, by decide, rfl, Nat.le_of_ble_eq_true rfl⟩) ?_
  show mj_W _ _ _ _ _ 0 [.ref 145, .int v1] [] _
  refine mj_aload_n (i := 0) (q := 1) dX7_search_0 rfl rfl rfl ?_
  refine mj_num1 (v := 0) (q := 2) rfl dX7_search_1 rfl ?_
  refine mj_putf (x := 0) (q := 5) dX7_search_2 fl_X7_23 rfl rfl (by first | assumption | simp [mj_up, mj_upl, mj_row, *]) rfl rfl rfl ?_
  refine mj_aload_n (i := 0) (q := 6) dX7_search_5 rfl rfl rfl ?_
  refine mj_iload_n (i := 1) (q := 7) dX7_search_6 rfl rfl rfl ?_
  refine mj_kV1i (K := m_X7_isRun) (q := 10) (mc1 := 0) (ms1 := 0) (mc := 0) (ms := 0) dX7_search_7 ln_X7_110 ok_X7_isRun (Nat.le_of_ble_eq_true rfl) (by decide) (mj_rc2 (x := 0) (ci := 9) (by first | assumption | simp [mj_up, mj_upl, mj_row, *]) rfl) rfl rfl rfl (s_isRun kX gX kY gL gR kL kR (by rw [mj_upr (by decide)]; exact fL) (by rw [mj_upr (by decide)]; exact fR)) (fun r_7 h1 hq => ?_)
  obtain ⟨rfl, rfl⟩ := hq
  refine mj_if_ne (tgt := 19) (q := 13) dX7_search_10 (by decide) rfl (fun c_10 => absurd (by decide) c_10) (fun c_10 => ?_)
  refine mj_aload_n (i := 0) (q := 14) dX7_search_13 rfl rfl rfl ?_
  refine mj_num1 (v := 1) (q := 15) rfl dX7_search_14 rfl ?_
  refine mj_kV1i (K := m_X7_refuse) (q := 18) (mc1 := 0) (ms1 := 0) (mc := 0) (ms := 0) dX7_search_15 ln_X7_95 ok_X7_refuse (Nat.le_of_ble_eq_true rfl) (by decide) (mj_rc2 (x := 0) (ci := 9) (by first | assumption | simp [mj_up, mj_upl, mj_row, *]) rfl) rfl rfl rfl (s_refuse kX) (fun r_15 h1 hq => ?_)
  obtain ⟨rfl, rfl⟩ := hq
  exact mj_ireturn dX7_search_18 ⟨_, rfl, rfl⟩ ⟨_, rfl, ⟨rfl, _, _, _, _, rfl, kX, mj_ups, rfl, by (repeat rw [mj_upr (by decide)]), rfl⟩⟩
set_option maxHeartbeats 100000 in
set_option maxRecDepth 100000 in
theorem r_test {d n : Nat} {v1 : Int32} {K : Nat → mj_K} {f : Nat → Nat → Int32} {g : Nat → Nat → Option Nat} (kX : K 145 = (2, 9, 0)) (gX : g 145 1 = some 146) (kY : K 146 = (2, 8, 0)) (gL : g 146 0 = some 147) (gR : g 146 1 = some 148) (kL : K 147 = (2, 1, 0)) (kR : K 148 = (2, 1, 0)) (fL : f 147 2 = 0) (fR : f 148 2 = 0) : mj_Ri m_X7_test (d + 3) 0 0 [.ref 145, .int v1] (n, K, f, g) (fun r h1 => r = 0 ∧ ∃ n1 K1 f1 g1, h1 = (n1, K1, f1, g1) ∧ K1 145 = (2, 9, 0) ∧ f1 145 0 = 1 ∧ K1 149 = K 149 ∧ f1 149 = f 149 ∧ K1 0 = K 0) := by
  refine mj_entry (by refine ⟨by decide +kernel, by decide, rfl, Nat.le_of_ble_eq_true rfl⟩) ?_
  show mj_W _ _ _ _ _ 0 [.ref 145, .int v1] [] _
  refine mj_aload_n (i := 0) (q := 1) dX7_test_0 rfl rfl rfl ?_
  refine mj_num1 (v := 0) (q := 2) rfl dX7_test_1 rfl ?_
  refine mj_putf (x := 0) (q := 5) dX7_test_2 fl_X7_23 rfl rfl (by first | assumption | simp [mj_up, mj_upl, mj_row, *]) rfl rfl rfl ?_
  refine mj_aload_n (i := 0) (q := 6) dX7_test_5 rfl rfl rfl ?_
  refine mj_iload_n (i := 1) (q := 7) dX7_test_6 rfl rfl rfl ?_
  refine mj_kV1i (K := m_X7_isRun) (q := 10) (mc1 := 0) (ms1 := 0) (mc := 0) (ms := 0) dX7_test_7 ln_X7_110 ok_X7_isRun (Nat.le_of_ble_eq_true rfl) (by decide) (mj_rc2 (x := 0) (ci := 9) (by first | assumption | simp [mj_up, mj_upl, mj_row, *]) rfl) rfl rfl rfl (s_isRun kX gX kY gL gR kL kR (by rw [mj_upr (by decide)]; exact fL) (by rw [mj_upr (by decide)]; exact fR)) (fun r_7 h1 hq => ?_)
  obtain ⟨rfl, rfl⟩ := hq
  refine mj_if_ne (tgt := 19) (q := 13) dX7_test_10 (by decide) rfl (fun c_10 => absurd (by decide) c_10) (fun c_10 => ?_)
  refine mj_aload_n (i := 0) (q := 14) dX7_test_13 rfl rfl rfl ?_
  refine mj_num1 (v := 1) (q := 15) rfl dX7_test_14 rfl ?_
  refine mj_kV1i (K := m_X7_refuse) (q := 18) (mc1 := 0) (ms1 := 0) (mc := 0) (ms := 0) dX7_test_15 ln_X7_95 ok_X7_refuse (Nat.le_of_ble_eq_true rfl) (by decide) (mj_rc2 (x := 0) (ci := 9) (by first | assumption | simp [mj_up, mj_upl, mj_row, *]) rfl) rfl rfl rfl (s_refuse kX) (fun r_15 h1 hq => ?_)
  obtain ⟨rfl, rfl⟩ := hq
  exact mj_ireturn dX7_test_18 ⟨_, rfl, rfl⟩ ⟨_, rfl, ⟨rfl, _, _, _, _, rfl, kX, mj_ups, rfl, by (repeat rw [mj_upr (by decide)]), rfl⟩⟩
set_option maxHeartbeats 100000 in
set_option maxRecDepth 100000 in
theorem r_sweep {d n : Nat} {v1 : Int32} {K : Nat → mj_K} {f : Nat → Nat → Int32} {g : Nat → Nat → Option Nat} (kX : K 145 = (2, 9, 0)) (gX : g 145 1 = some 146) (kY : K 146 = (2, 8, 0)) (gL : g 146 0 = some 147) (gR : g 146 1 = some 148) (kL : K 147 = (2, 1, 0)) (kR : K 148 = (2, 1, 0)) (fL : f 147 2 = 0) (fR : f 148 2 = 0) : mj_Ri m_X7_sweep (d + 3) 0 0 [.ref 145, .int v1] (n, K, f, g) (fun r h1 => r = 0 ∧ ∃ n1 K1 f1 g1, h1 = (n1, K1, f1, g1) ∧ K1 145 = (2, 9, 0) ∧ f1 145 0 = 1 ∧ K1 149 = K 149 ∧ f1 149 = f 149 ∧ K1 0 = K 0) := by
  refine mj_entry (by refine ⟨by decide +kernel, by decide, rfl, Nat.le_of_ble_eq_true rfl⟩) ?_
  show mj_W _ _ _ _ _ 0 [.ref 145, .int v1, .null] [] _
  refine mj_aload_n (i := 0) (q := 1) dX7_sweep_0 rfl rfl rfl ?_
  refine mj_aload_n (i := 0) (q := 2) dX7_sweep_1 rfl rfl rfl ?_
  refine mj_iload_n (i := 1) (q := 3) dX7_sweep_2 rfl rfl rfl ?_
  refine mj_kV1i (K := m_X7_isRun) (q := 6) (mc1 := 0) (ms1 := 0) (mc := 0) (ms := 0) dX7_sweep_3 ln_X7_110 ok_X7_isRun (Nat.le_of_ble_eq_true rfl) (by decide) (mj_rc2 (x := 0) (ci := 9) (by first | assumption | simp [mj_up, mj_upl, mj_row, *]) rfl) rfl rfl rfl (s_isRun kX gX kY gL gR kL kR fL fR) (fun r_3 h1 hq => ?_)
  obtain ⟨rfl, rfl⟩ := hq
  refine mj_if_ne (tgt := 13) (q := 9) dX7_sweep_6 (by decide) rfl (fun c_6 => absurd (by decide) c_6) (fun c_6 => ?_)
  refine mj_num1 (v := 1) (q := 10) rfl dX7_sweep_9 rfl ?_
  refine mj_goto (q := 26) dX7_sweep_10 (by decide) ?_
  refine mj_putf (x := 0) (q := 29) dX7_sweep_26 fl_X7_23 rfl rfl (by first | assumption | simp [mj_up, mj_upl, mj_row, *]) rfl rfl rfl ?_
  refine mj_aload_n (i := 0) (q := 30) dX7_sweep_29 rfl rfl rfl ?_
  refine mj_getfv (x := 0) (v := 1) (q := 33) dX7_sweep_30 fl_X7_23 rfl rfl (by first | assumption | simp [mj_up, mj_upl, mj_row, *]) mj_ups ?_
  refine mj_if_le (tgt := 38) (q := 36) dX7_sweep_33 (by decide) rfl (fun c_33 => absurd c_33 (by decide)) (fun c_33 => ?_)
  refine mj_num1 (v := 0) (q := 37) rfl dX7_sweep_36 rfl ?_
  exact mj_ireturn dX7_sweep_37 ⟨_, rfl, rfl⟩ ⟨_, rfl, ⟨rfl, _, _, _, _, rfl, kX, mj_ups, rfl, by (repeat rw [mj_upr (by decide)]), rfl⟩⟩
set_option maxHeartbeats 100000 in
set_option maxRecDepth 100000 in
theorem r_winch {d n : Nat} {v1 v2 : Int32} {K : Nat → mj_K} {f : Nat → Nat → Int32} {g : Nat → Nat → Option Nat} (kX : K 145 = (2, 9, 0)) (gX : g 145 1 = some 146) (kY : K 146 = (2, 8, 0)) (gL : g 146 0 = some 147) (gR : g 146 1 = some 148) (kL : K 147 = (2, 1, 0)) (kR : K 148 = (2, 1, 0)) (fL : f 147 2 = 0) (fR : f 148 2 = 0) : mj_Ri m_X7_winch (d + 3) 0 0 [.ref 145, .int v1, .int v2] (n, K, f, g) (fun r h1 => r = 0 ∧ ∃ n1 K1 f1 g1, h1 = (n1, K1, f1, g1) ∧ K1 145 = (2, 9, 0) ∧ f1 145 0 = 1 ∧ K1 149 = K 149 ∧ f1 149 = f 149 ∧ K1 0 = K 0) := by
  refine mj_entry (by refine ⟨by decide +kernel, by decide, rfl, Nat.le_of_ble_eq_true rfl⟩) ?_
  show mj_W _ _ _ _ _ 0 [.ref 145, .int v1, .int v2, .null] [] _
  refine mj_aload_n (i := 0) (q := 1) dX7_winch_0 rfl rfl rfl ?_
  refine mj_aload_n (i := 0) (q := 2) dX7_winch_1 rfl rfl rfl ?_
  refine mj_iload_n (i := 1) (q := 3) dX7_winch_2 rfl rfl rfl ?_
  refine mj_kV1i (K := m_X7_isRun) (q := 6) (mc1 := 0) (ms1 := 0) (mc := 0) (ms := 0) dX7_winch_3 ln_X7_110 ok_X7_isRun (Nat.le_of_ble_eq_true rfl) (by decide) (mj_rc2 (x := 0) (ci := 9) (by first | assumption | simp [mj_up, mj_upl, mj_row, *]) rfl) rfl rfl rfl (s_isRun kX gX kY gL gR kL kR fL fR) (fun r_3 h1 hq => ?_)
  obtain ⟨rfl, rfl⟩ := hq
  refine mj_if_ne (tgt := 13) (q := 9) dX7_winch_6 (by decide) rfl (fun c_6 => absurd (by decide) c_6) (fun c_6 => ?_)
  refine mj_num1 (v := 1) (q := 10) rfl dX7_winch_9 rfl ?_
  refine mj_goto (q := 26) dX7_winch_10 (by decide) ?_
  refine mj_putf (x := 0) (q := 29) dX7_winch_26 fl_X7_23 rfl rfl (by first | assumption | simp [mj_up, mj_upl, mj_row, *]) rfl rfl rfl ?_
  refine mj_aload_n (i := 0) (q := 30) dX7_winch_29 rfl rfl rfl ?_
  refine mj_getfv (x := 0) (v := 1) (q := 33) dX7_winch_30 fl_X7_23 rfl rfl (by first | assumption | simp [mj_up, mj_upl, mj_row, *]) mj_ups ?_
  refine mj_if_le (tgt := 38) (q := 36) dX7_winch_33 (by decide) rfl (fun c_33 => absurd c_33 (by decide)) (fun c_33 => ?_)
  refine mj_num1 (v := 0) (q := 37) rfl dX7_winch_36 rfl ?_
  exact mj_ireturn dX7_winch_37 ⟨_, rfl, rfl⟩ ⟨_, rfl, ⟨rfl, _, _, _, _, rfl, kX, mj_ups, rfl, by (repeat rw [mj_upr (by decide)]), rfl⟩⟩
set_option maxHeartbeats 100000 in
set_option maxRecDepth 100000 in
theorem r_groom {d n : Nat} {v1 : Int32} {K : Nat → mj_K} {f : Nat → Nat → Int32} {g : Nat → Nat → Option Nat} (kX : K 145 = (2, 9, 0)) (gX : g 145 1 = some 146) (kY : K 146 = (2, 8, 0)) (gL : g 146 0 = some 147) (gR : g 146 1 = some 148) (kL : K 147 = (2, 1, 0)) (kR : K 148 = (2, 1, 0)) (fL : f 147 2 = 0) (fR : f 148 2 = 0) : mj_Ri m_X7_groom (d + 3) 0 0 [.ref 145, .int v1] (n, K, f, g) (fun r h1 => r = 0 ∧ ∃ n1 K1 f1 g1, h1 = (n1, K1, f1, g1) ∧ K1 145 = (2, 9, 0) ∧ f1 145 0 = 1 ∧ K1 149 = K 149 ∧ f1 149 = f 149 ∧ K1 0 = K 0) := by
  refine mj_entry (by refine ⟨by decide +kernel, by decide, rfl, Nat.le_of_ble_eq_true rfl⟩) ?_
  show mj_W _ _ _ _ _ 0 [.ref 145, .int v1, .null, .null, .null, .null, .null] [] _
  refine mj_aload_n (i := 0) (q := 1) dX7_groom_0 rfl rfl rfl ?_
  refine mj_num1 (v := 0) (q := 2) rfl dX7_groom_1 rfl ?_
  refine mj_putf (x := 0) (q := 5) dX7_groom_2 fl_X7_23 rfl rfl (by first | assumption | simp [mj_up, mj_upl, mj_row, *]) rfl rfl rfl ?_
  refine mj_aload_n (i := 0) (q := 6) dX7_groom_5 rfl rfl rfl ?_
  refine mj_iload_n (i := 1) (q := 7) dX7_groom_6 rfl rfl rfl ?_
  refine mj_kV1i (K := m_X7_isRun) (q := 10) (mc1 := 0) (ms1 := 0) (mc := 0) (ms := 0) dX7_groom_7 ln_X7_110 ok_X7_isRun (Nat.le_of_ble_eq_true rfl) (by decide) (mj_rc2 (x := 0) (ci := 9) (by first | assumption | simp [mj_up, mj_upl, mj_row, *]) rfl) rfl rfl rfl (s_isRun kX gX kY gL gR kL kR (by rw [mj_upr (by decide)]; exact fL) (by rw [mj_upr (by decide)]; exact fR)) (fun r_7 h1 hq => ?_)
  obtain ⟨rfl, rfl⟩ := hq
  refine mj_if_ne (tgt := 19) (q := 13) dX7_groom_10 (by decide) rfl (fun c_10 => absurd (by decide) c_10) (fun c_10 => ?_)
  refine mj_aload_n (i := 0) (q := 14) dX7_groom_13 rfl rfl rfl ?_
  refine mj_num1 (v := 1) (q := 15) rfl dX7_groom_14 rfl ?_
  refine mj_kV1i (K := m_X7_refuse) (q := 18) (mc1 := 0) (ms1 := 0) (mc := 0) (ms := 0) dX7_groom_15 ln_X7_95 ok_X7_refuse (Nat.le_of_ble_eq_true rfl) (by decide) (mj_rc2 (x := 0) (ci := 9) (by first | assumption | simp [mj_up, mj_upl, mj_row, *]) rfl) rfl rfl rfl (s_refuse kX) (fun r_15 h1 hq => ?_)
  obtain ⟨rfl, rfl⟩ := hq
  exact mj_ireturn dX7_groom_18 ⟨_, rfl, rfl⟩ ⟨_, rfl, ⟨rfl, _, _, _, _, rfl, kX, mj_ups, rfl, by (repeat rw [mj_upr (by decide)]), rfl⟩⟩
set_option maxHeartbeats 100000 in
set_option maxRecDepth 100000 in
theorem r_open {d n : Nat} {v1 : Int32} {K : Nat → mj_K} {f : Nat → Nat → Int32} {g : Nat → Nat → Option Nat} (kX : K 145 = (2, 9, 0)) (gX : g 145 1 = some 146) (kY : K 146 = (2, 8, 0)) (gL : g 146 0 = some 147) (gR : g 146 1 = some 148) (kL : K 147 = (2, 1, 0)) (kR : K 148 = (2, 1, 0)) (fL : f 147 2 = 0) (fR : f 148 2 = 0) : mj_Ri m_X7_open (d + 3) 0 0 [.ref 145, .int v1] (n, K, f, g) (fun r h1 => r = 0 ∧ ∃ n1 K1 f1 g1, h1 = (n1, K1, f1, g1) ∧ K1 145 = (2, 9, 0) ∧ f1 145 0 = 1 ∧ K1 149 = K 149 ∧ f1 149 = f 149 ∧ K1 0 = K 0) := by
  refine mj_entry (by refine ⟨by decide +kernel, by decide, rfl, Nat.le_of_ble_eq_true rfl⟩) ?_
  show mj_W _ _ _ _ _ 0 [.ref 145, .int v1, .null] [] _
  refine mj_aload_n (i := 0) (q := 1) dX7_open_0 rfl rfl rfl ?_
  refine mj_num1 (v := 0) (q := 2) rfl dX7_open_1 rfl ?_
  refine mj_putf (x := 0) (q := 5) dX7_open_2 fl_X7_23 rfl rfl (by first | assumption | simp [mj_up, mj_upl, mj_row, *]) rfl rfl rfl ?_
  refine mj_aload_n (i := 0) (q := 6) dX7_open_5 rfl rfl rfl ?_
  refine mj_iload_n (i := 1) (q := 7) dX7_open_6 rfl rfl rfl ?_
  refine mj_kV1i (K := m_X7_isRun) (q := 10) (mc1 := 0) (ms1 := 0) (mc := 0) (ms := 0) dX7_open_7 ln_X7_110 ok_X7_isRun (Nat.le_of_ble_eq_true rfl) (by decide) (mj_rc2 (x := 0) (ci := 9) (by first | assumption | simp [mj_up, mj_upl, mj_row, *]) rfl) rfl rfl rfl (s_isRun kX gX kY gL gR kL kR (by rw [mj_upr (by decide)]; exact fL) (by rw [mj_upr (by decide)]; exact fR)) (fun r_7 h1 hq => ?_)
  obtain ⟨rfl, rfl⟩ := hq
  refine mj_if_ne (tgt := 19) (q := 13) dX7_open_10 (by decide) rfl (fun c_10 => absurd (by decide) c_10) (fun c_10 => ?_)
  refine mj_aload_n (i := 0) (q := 14) dX7_open_13 rfl rfl rfl ?_
  refine mj_num1 (v := 1) (q := 15) rfl dX7_open_14 rfl ?_
  refine mj_kV1i (K := m_X7_refuse) (q := 18) (mc1 := 0) (ms1 := 0) (mc := 0) (ms := 0) dX7_open_15 ln_X7_95 ok_X7_refuse (Nat.le_of_ble_eq_true rfl) (by decide) (mj_rc2 (x := 0) (ci := 9) (by first | assumption | simp [mj_up, mj_upl, mj_row, *]) rfl) rfl rfl rfl (s_refuse kX) (fun r_15 h1 hq => ?_)
  obtain ⟨rfl, rfl⟩ := hq
  exact mj_ireturn dX7_open_18 ⟨_, rfl, rfl⟩ ⟨_, rfl, ⟨rfl, _, _, _, _, rfl, kX, mj_ups, rfl, by (repeat rw [mj_upr (by decide)]), rfl⟩⟩
set_option maxHeartbeats 100000 in
set_option maxRecDepth 100000 in
theorem r_close {d n : Nat} {v1 : Int32} {K : Nat → mj_K} {f : Nat → Nat → Int32} {g : Nat → Nat → Option Nat} (kX : K 145 = (2, 9, 0)) (gX : g 145 1 = some 146) (kY : K 146 = (2, 8, 0)) (gL : g 146 0 = some 147) (gR : g 146 1 = some 148) (kL : K 147 = (2, 1, 0)) (kR : K 148 = (2, 1, 0)) (fL : f 147 2 = 0) (fR : f 148 2 = 0) : mj_Ri m_X7_close (d + 3) 0 0 [.ref 145, .int v1] (n, K, f, g) (fun r h1 => r = 0 ∧ ∃ n1 K1 f1 g1, h1 = (n1, K1, f1, g1) ∧ K1 145 = (2, 9, 0) ∧ f1 145 0 = 1 ∧ K1 149 = K 149 ∧ f1 149 = f 149 ∧ K1 0 = K 0) := by
  refine mj_entry (by refine ⟨by decide +kernel, by decide, rfl, Nat.le_of_ble_eq_true rfl⟩) ?_
  show mj_W _ _ _ _ _ 0 [.ref 145, .int v1] [] _
  refine mj_aload_n (i := 0) (q := 1) dX7_close_0 rfl rfl rfl ?_
  refine mj_num1 (v := 0) (q := 2) rfl dX7_close_1 rfl ?_
  refine mj_putf (x := 0) (q := 5) dX7_close_2 fl_X7_23 rfl rfl (by first | assumption | simp [mj_up, mj_upl, mj_row, *]) rfl rfl rfl ?_
  refine mj_aload_n (i := 0) (q := 6) dX7_close_5 rfl rfl rfl ?_
  refine mj_iload_n (i := 1) (q := 7) dX7_close_6 rfl rfl rfl ?_
  refine mj_kV1i (K := m_X7_isRun) (q := 10) (mc1 := 0) (ms1 := 0) (mc := 0) (ms := 0) dX7_close_7 ln_X7_110 ok_X7_isRun (Nat.le_of_ble_eq_true rfl) (by decide) (mj_rc2 (x := 0) (ci := 9) (by first | assumption | simp [mj_up, mj_upl, mj_row, *]) rfl) rfl rfl rfl (s_isRun kX gX kY gL gR kL kR (by rw [mj_upr (by decide)]; exact fL) (by rw [mj_upr (by decide)]; exact fR)) (fun r_7 h1 hq => ?_)
  obtain ⟨rfl, rfl⟩ := hq
  refine mj_if_ne (tgt := 19) (q := 13) dX7_close_10 (by decide) rfl (fun c_10 => absurd (by decide) c_10) (fun c_10 => ?_)
  refine mj_aload_n (i := 0) (q := 14) dX7_close_13 rfl rfl rfl ?_
  refine mj_num1 (v := 1) (q := 15) rfl dX7_close_14 rfl ?_
  refine mj_kV1i (K := m_X7_refuse) (q := 18) (mc1 := 0) (ms1 := 0) (mc := 0) (ms := 0) dX7_close_15 ln_X7_95 ok_X7_refuse (Nat.le_of_ble_eq_true rfl) (by decide) (mj_rc2 (x := 0) (ci := 9) (by first | assumption | simp [mj_up, mj_upl, mj_row, *]) rfl) rfl rfl rfl (s_refuse kX) (fun r_15 h1 hq => ?_)
  obtain ⟨rfl, rfl⟩ := hq
  exact mj_ireturn dX7_close_18 ⟨_, rfl, rfl⟩ ⟨_, rfl, ⟨rfl, _, _, _, _, rfl, kX, mj_ups, rfl, by (repeat rw [mj_upr (by decide)]), rfl⟩⟩
set_option maxHeartbeats 100000 in
set_option maxRecDepth 100000 in
theorem r_ofRun {d n : Nat} {v1 v2 : Int32} {K : Nat → mj_K} {f : Nat → Nat → Int32} {g : Nat → Nat → Option Nat} (kX : K 145 = (2, 9, 0)) (gX : g 145 1 = some 146) (kY : K 146 = (2, 8, 0)) (gL : g 146 0 = some 147) (gR : g 146 1 = some 148) (kL : K 147 = (2, 1, 0)) (kR : K 148 = (2, 1, 0)) (fL : f 147 2 = 0) (fR : f 148 2 = 0) : mj_Ri m_X7_ofRun (d + 3) 0 0 [.ref 145, .int v1, .int v2] (n, K, f, g) (fun r h1 => r = 0 ∧ ∃ n1 K1 f1 g1, h1 = (n1, K1, f1, g1) ∧ K1 145 = (2, 9, 0) ∧ f1 145 0 = 1 ∧ K1 149 = K 149 ∧ f1 149 = f 149 ∧ K1 0 = K 0) := by
  refine mj_entry (by refine ⟨by decide +kernel, by decide, rfl, Nat.le_of_ble_eq_true rfl⟩) ?_
  show mj_W _ _ _ _ _ 0 [.ref 145, .int v1, .int v2] [] _
  refine mj_aload_n (i := 0) (q := 1) dX7_ofRun_0 rfl rfl rfl ?_
  refine mj_num1 (v := 0) (q := 2) rfl dX7_ofRun_1 rfl ?_
  refine mj_putf (x := 0) (q := 5) dX7_ofRun_2 fl_X7_23 rfl rfl (by first | assumption | simp [mj_up, mj_upl, mj_row, *]) rfl rfl rfl ?_
  refine mj_aload_n (i := 0) (q := 6) dX7_ofRun_5 rfl rfl rfl ?_
  refine mj_iload_n (i := 1) (q := 7) dX7_ofRun_6 rfl rfl rfl ?_
  refine mj_kV1i (K := m_X7_isRun) (q := 10) (mc1 := 0) (ms1 := 0) (mc := 0) (ms := 0) dX7_ofRun_7 ln_X7_110 ok_X7_isRun (Nat.le_of_ble_eq_true rfl) (by decide) (mj_rc2 (x := 0) (ci := 9) (by first | assumption | simp [mj_up, mj_upl, mj_row, *]) rfl) rfl rfl rfl (s_isRun kX gX kY gL gR kL kR (by rw [mj_upr (by decide)]; exact fL) (by rw [mj_upr (by decide)]; exact fR)) (fun r_7 h1 hq => ?_)
  obtain ⟨rfl, rfl⟩ := hq
  refine mj_if_ne (tgt := 19) (q := 13) dX7_ofRun_10 (by decide) rfl (fun c_10 => absurd (by decide) c_10) (fun c_10 => ?_)
  refine mj_aload_n (i := 0) (q := 14) dX7_ofRun_13 rfl rfl rfl ?_
  refine mj_num1 (v := 1) (q := 15) rfl dX7_ofRun_14 rfl ?_
  refine mj_kV1i (K := m_X7_refuse) (q := 18) (mc1 := 0) (ms1 := 0) (mc := 0) (ms := 0) dX7_ofRun_15 ln_X7_95 ok_X7_refuse (Nat.le_of_ble_eq_true rfl) (by decide) (mj_rc2 (x := 0) (ci := 9) (by first | assumption | simp [mj_up, mj_upl, mj_row, *]) rfl) rfl rfl rfl (s_refuse kX) (fun r_15 h1 hq => ?_)
  obtain ⟨rfl, rfl⟩ := hq
  exact mj_ireturn dX7_ofRun_18 ⟨_, rfl, rfl⟩ ⟨_, rfl, ⟨rfl, _, _, _, _, rfl, kX, mj_ups, rfl, by (repeat rw [mj_upr (by decide)]), rfl⟩⟩
set_option maxHeartbeats 100000 in
set_option maxRecDepth 100000 in
theorem r_ofLayer {d n : Nat} {v1 v2 v3 : Int32} {K : Nat → mj_K} {f : Nat → Nat → Int32} {g : Nat → Nat → Option Nat} (kX : K 145 = (2, 9, 0)) (gX : g 145 1 = some 146) (kY : K 146 = (2, 8, 0)) (gL : g 146 0 = some 147) (gR : g 146 1 = some 148) (kL : K 147 = (2, 1, 0)) (kR : K 148 = (2, 1, 0)) (fL : f 147 2 = 0) (fR : f 148 2 = 0) : mj_Ri m_X7_ofLayer (d + 3) 0 0 [.ref 145, .int v1, .int v2, .int v3] (n, K, f, g) (fun r h1 => r = 0 ∧ ∃ n1 K1 f1 g1, h1 = (n1, K1, f1, g1) ∧ K1 145 = (2, 9, 0) ∧ f1 145 0 = 1 ∧ K1 149 = K 149 ∧ f1 149 = f 149 ∧ K1 0 = K 0) := by
  refine mj_entry (by refine ⟨by decide +kernel, by decide, rfl, Nat.le_of_ble_eq_true rfl⟩) ?_
  show mj_W _ _ _ _ _ 0 [.ref 145, .int v1, .int v2, .int v3] [] _
  refine mj_aload_n (i := 0) (q := 1) dX7_ofLayer_0 rfl rfl rfl ?_
  refine mj_num1 (v := 0) (q := 2) rfl dX7_ofLayer_1 rfl ?_
  refine mj_putf (x := 0) (q := 5) dX7_ofLayer_2 fl_X7_23 rfl rfl (by first | assumption | simp [mj_up, mj_upl, mj_row, *]) rfl rfl rfl ?_
  refine mj_aload_n (i := 0) (q := 6) dX7_ofLayer_5 rfl rfl rfl ?_
  refine mj_iload_n (i := 1) (q := 7) dX7_ofLayer_6 rfl rfl rfl ?_
  refine mj_kV1i (K := m_X7_isRun) (q := 10) (mc1 := 0) (ms1 := 0) (mc := 0) (ms := 0) dX7_ofLayer_7 ln_X7_110 ok_X7_isRun (Nat.le_of_ble_eq_true rfl) (by decide) (mj_rc2 (x := 0) (ci := 9) (by first | assumption | simp [mj_up, mj_upl, mj_row, *]) rfl) rfl rfl rfl (s_isRun kX gX kY gL gR kL kR (by rw [mj_upr (by decide)]; exact fL) (by rw [mj_upr (by decide)]; exact fR)) (fun r_7 h1 hq => ?_)
  obtain ⟨rfl, rfl⟩ := hq
  refine mj_if_eq (tgt := 29) (q := 13) dX7_ofLayer_10 (by decide) rfl (fun c_10 => ?_) (fun c_10 => absurd (by decide) c_10)
  refine mj_aload_n (i := 0) (q := 30) dX7_ofLayer_29 rfl rfl rfl ?_
  refine mj_num1 (v := 1) (q := 31) rfl dX7_ofLayer_30 rfl ?_
  refine mj_kV1i (K := m_X7_refuse) (q := 34) (mc1 := 0) (ms1 := 0) (mc := 0) (ms := 0) dX7_ofLayer_31 ln_X7_95 ok_X7_refuse (Nat.le_of_ble_eq_true rfl) (by decide) (mj_rc2 (x := 0) (ci := 9) (by first | assumption | simp [mj_up, mj_upl, mj_row, *]) rfl) rfl rfl rfl (s_refuse kX) (fun r_31 h1 hq => ?_)
  obtain ⟨rfl, rfl⟩ := hq
  exact mj_ireturn dX7_ofLayer_34 ⟨_, rfl, rfl⟩ ⟨_, rfl, ⟨rfl, _, _, _, _, rfl, kX, mj_ups, rfl, by (repeat rw [mj_upr (by decide)]), rfl⟩⟩
set_option maxHeartbeats 100000 in
set_option maxRecDepth 100000 in
theorem r_ofLift {d n : Nat} {v1 v2 : Int32} {K : Nat → mj_K} {f : Nat → Nat → Int32} {g : Nat → Nat → Option Nat} (kX : K 145 = (2, 9, 0)) (gX : g 145 1 = some 146) (kY : K 146 = (2, 8, 0)) (gL : g 146 0 = some 147) (gR : g 146 1 = some 148) (kL : K 147 = (2, 1, 0)) (kR : K 148 = (2, 1, 0)) (fL : f 147 2 = 0) (fR : f 148 2 = 0) : mj_Ri m_X7_ofLift (d + 3) 0 0 [.ref 145, .int v1, .int v2] (n, K, f, g) (fun r h1 => r = 0 ∧ ∃ n1 K1 f1 g1, h1 = (n1, K1, f1, g1) ∧ K1 145 = (2, 9, 0) ∧ f1 145 0 = 1 ∧ K1 149 = K 149 ∧ f1 149 = f 149 ∧ K1 0 = K 0) := by
  refine mj_entry (by refine ⟨by decide +kernel, by decide, rfl, Nat.le_of_ble_eq_true rfl⟩) ?_
  show mj_W _ _ _ _ _ 0 [.ref 145, .int v1, .int v2] [] _
  refine mj_aload_n (i := 0) (q := 1) dX7_ofLift_0 rfl rfl rfl ?_
  refine mj_num1 (v := 0) (q := 2) rfl dX7_ofLift_1 rfl ?_
  refine mj_putf (x := 0) (q := 5) dX7_ofLift_2 fl_X7_23 rfl rfl (by first | assumption | simp [mj_up, mj_upl, mj_row, *]) rfl rfl rfl ?_
  refine mj_aload_n (i := 0) (q := 6) dX7_ofLift_5 rfl rfl rfl ?_
  refine mj_iload_n (i := 1) (q := 7) dX7_ofLift_6 rfl rfl rfl ?_
  refine mj_kV1i (K := m_X7_isLift) (q := 10) (mc1 := 0) (ms1 := 0) (mc := 0) (ms := 0) dX7_ofLift_7 ln_X7_103 ok_X7_isLift (Nat.le_of_ble_eq_true rfl) (by decide) (mj_rc2 (x := 0) (ci := 9) (by first | assumption | simp [mj_up, mj_upl, mj_row, *]) rfl) rfl rfl rfl (s_isLift kX gX kY gL gR kL kR (by rw [mj_upr (by decide)]; exact fL) (by rw [mj_upr (by decide)]; exact fR)) (fun r_7 h1 hq => ?_)
  obtain ⟨rfl, rfl⟩ := hq
  refine mj_if_ne (tgt := 19) (q := 13) dX7_ofLift_10 (by decide) rfl (fun c_10 => absurd (by decide) c_10) (fun c_10 => ?_)
  refine mj_aload_n (i := 0) (q := 14) dX7_ofLift_13 rfl rfl rfl ?_
  refine mj_num1 (v := 1) (q := 15) rfl dX7_ofLift_14 rfl ?_
  refine mj_kV1i (K := m_X7_refuse) (q := 18) (mc1 := 0) (ms1 := 0) (mc := 0) (ms := 0) dX7_ofLift_15 ln_X7_95 ok_X7_refuse (Nat.le_of_ble_eq_true rfl) (by decide) (mj_rc2 (x := 0) (ci := 9) (by first | assumption | simp [mj_up, mj_upl, mj_row, *]) rfl) rfl rfl rfl (s_refuse kX) (fun r_15 h1 hq => ?_)
  obtain ⟨rfl, rfl⟩ := hq
  exact mj_ireturn dX7_ofLift_18 ⟨_, rfl, rfl⟩ ⟨_, rfl, ⟨rfl, _, _, _, _, rfl, kX, mj_ups, rfl, by (repeat rw [mj_upr (by decide)]), rfl⟩⟩
set_option maxHeartbeats 100000 in
set_option maxRecDepth 100000 in
theorem r_wouldRisk {d n : Nat} {v1 v2 v3 v4 : Int32} {K : Nat → mj_K} {f : Nat → Nat → Int32} {g : Nat → Nat → Option Nat} (kX : K 145 = (2, 9, 0)) (gX : g 145 1 = some 146) (kY : K 146 = (2, 8, 0)) (gL : g 146 0 = some 147) (gR : g 146 1 = some 148) (kL : K 147 = (2, 1, 0)) (kR : K 148 = (2, 1, 0)) (fL : f 147 2 = 0) (fR : f 148 2 = 0) : mj_Ri m_X7_wouldRisk (d + 3) 0 0 [.ref 145, .int v1, .int v2, .int v3, .int v4] (n, K, f, g) (fun r h1 => r = 0 ∧ ∃ n1 K1 f1 g1, h1 = (n1, K1, f1, g1) ∧ K1 145 = (2, 9, 0) ∧ f1 145 0 = 1 ∧ K1 149 = K 149 ∧ f1 149 = f 149 ∧ K1 0 = K 0) := by
  refine mj_entry (by refine ⟨by decide +kernel, by decide, rfl, Nat.le_of_ble_eq_true rfl⟩) ?_
  show mj_W _ _ _ _ _ 0 [.ref 145, .int v1, .int v2, .int v3, .int v4] [] _
  refine mj_aload_n (i := 0) (q := 1) dX7_wouldRisk_0 rfl rfl rfl ?_
  refine mj_num1 (v := 0) (q := 2) rfl dX7_wouldRisk_1 rfl ?_
  refine mj_putf (x := 0) (q := 5) dX7_wouldRisk_2 fl_X7_23 rfl rfl (by first | assumption | simp [mj_up, mj_upl, mj_row, *]) rfl rfl rfl ?_
  refine mj_aload_n (i := 0) (q := 6) dX7_wouldRisk_5 rfl rfl rfl ?_
  refine mj_iload_n (i := 1) (q := 7) dX7_wouldRisk_6 rfl rfl rfl ?_
  refine mj_kV1i (K := m_X7_isRun) (q := 10) (mc1 := 0) (ms1 := 0) (mc := 0) (ms := 0) dX7_wouldRisk_7 ln_X7_110 ok_X7_isRun (Nat.le_of_ble_eq_true rfl) (by decide) (mj_rc2 (x := 0) (ci := 9) (by first | assumption | simp [mj_up, mj_upl, mj_row, *]) rfl) rfl rfl rfl (s_isRun kX gX kY gL gR kL kR (by rw [mj_upr (by decide)]; exact fL) (by rw [mj_upr (by decide)]; exact fR)) (fun r_7 h1 hq => ?_)
  obtain ⟨rfl, rfl⟩ := hq
  refine mj_if_ne (tgt := 19) (q := 13) dX7_wouldRisk_10 (by decide) rfl (fun c_10 => absurd (by decide) c_10) (fun c_10 => ?_)
  refine mj_aload_n (i := 0) (q := 14) dX7_wouldRisk_13 rfl rfl rfl ?_
  refine mj_num1 (v := 1) (q := 15) rfl dX7_wouldRisk_14 rfl ?_
  refine mj_kV1i (K := m_X7_refuse) (q := 18) (mc1 := 0) (ms1 := 0) (mc := 0) (ms := 0) dX7_wouldRisk_15 ln_X7_95 ok_X7_refuse (Nat.le_of_ble_eq_true rfl) (by decide) (mj_rc2 (x := 0) (ci := 9) (by first | assumption | simp [mj_up, mj_upl, mj_row, *]) rfl) rfl rfl rfl (s_refuse kX) (fun r_15 h1 hq => ?_)
  obtain ⟨rfl, rfl⟩ := hq
  exact mj_ireturn dX7_wouldRisk_18 ⟨_, rfl, rfl⟩ ⟨_, rfl, ⟨rfl, _, _, _, _, rfl, kX, mj_ups, rfl, by (repeat rw [mj_upr (by decide)]), rfl⟩⟩
set_option maxHeartbeats 100000 in
set_option maxRecDepth 100000 in
theorem r_wouldMake {d n : Nat} {v1 v2 v3 v4 : Int32} {K : Nat → mj_K} {f : Nat → Nat → Int32} {g : Nat → Nat → Option Nat} (kX : K 145 = (2, 9, 0)) (gX : g 145 1 = some 146) (kY : K 146 = (2, 8, 0)) (gL : g 146 0 = some 147) (gR : g 146 1 = some 148) (kL : K 147 = (2, 1, 0)) (kR : K 148 = (2, 1, 0)) (fL : f 147 2 = 0) (fR : f 148 2 = 0) : mj_Ri m_X7_wouldMake (d + 3) 0 0 [.ref 145, .int v1, .int v2, .int v3, .int v4] (n, K, f, g) (fun r h1 => r = 0 ∧ ∃ n1 K1 f1 g1, h1 = (n1, K1, f1, g1) ∧ K1 145 = (2, 9, 0) ∧ f1 145 0 = 1 ∧ K1 149 = K 149 ∧ f1 149 = f 149 ∧ K1 0 = K 0) := by
  refine mj_entry (by refine ⟨by decide +kernel, by decide, rfl, Nat.le_of_ble_eq_true rfl⟩) ?_
  show mj_W _ _ _ _ _ 0 [.ref 145, .int v1, .int v2, .int v3, .int v4] [] _
  refine mj_aload_n (i := 0) (q := 1) dX7_wouldMake_0 rfl rfl rfl ?_
  refine mj_num1 (v := 0) (q := 2) rfl dX7_wouldMake_1 rfl ?_
  refine mj_putf (x := 0) (q := 5) dX7_wouldMake_2 fl_X7_23 rfl rfl (by first | assumption | simp [mj_up, mj_upl, mj_row, *]) rfl rfl rfl ?_
  refine mj_aload_n (i := 0) (q := 6) dX7_wouldMake_5 rfl rfl rfl ?_
  refine mj_iload_n (i := 1) (q := 7) dX7_wouldMake_6 rfl rfl rfl ?_
  refine mj_kV1i (K := m_X7_isRun) (q := 10) (mc1 := 0) (ms1 := 0) (mc := 0) (ms := 0) dX7_wouldMake_7 ln_X7_110 ok_X7_isRun (Nat.le_of_ble_eq_true rfl) (by decide) (mj_rc2 (x := 0) (ci := 9) (by first | assumption | simp [mj_up, mj_upl, mj_row, *]) rfl) rfl rfl rfl (s_isRun kX gX kY gL gR kL kR (by rw [mj_upr (by decide)]; exact fL) (by rw [mj_upr (by decide)]; exact fR)) (fun r_7 h1 hq => ?_)
  obtain ⟨rfl, rfl⟩ := hq
  refine mj_if_ne (tgt := 19) (q := 13) dX7_wouldMake_10 (by decide) rfl (fun c_10 => absurd (by decide) c_10) (fun c_10 => ?_)
  refine mj_aload_n (i := 0) (q := 14) dX7_wouldMake_13 rfl rfl rfl ?_
  refine mj_num1 (v := 1) (q := 15) rfl dX7_wouldMake_14 rfl ?_
  refine mj_kV1i (K := m_X7_refuse) (q := 18) (mc1 := 0) (ms1 := 0) (mc := 0) (ms := 0) dX7_wouldMake_15 ln_X7_95 ok_X7_refuse (Nat.le_of_ble_eq_true rfl) (by decide) (mj_rc2 (x := 0) (ci := 9) (by first | assumption | simp [mj_up, mj_upl, mj_row, *]) rfl) rfl rfl rfl (s_refuse kX) (fun r_15 h1 hq => ?_)
  obtain ⟨rfl, rfl⟩ := hq
  exact mj_ireturn dX7_wouldMake_18 ⟨_, rfl, rfl⟩ ⟨_, rfl, ⟨rfl, _, _, _, _, rfl, kX, mj_ups, rfl, by (repeat rw [mj_upr (by decide)]), rfl⟩⟩
set_option maxHeartbeats 100000 in
set_option maxRecDepth 100000 in
theorem rx_fill {d n : Nat} {v1 : Int32} {K : Nat → mj_K} {f : Nat → Nat → Int32} {g : Nat → Nat → Option Nat} (kX : K 145 = (2, 9, 0)) (hx : v1 < 1 ∨ ¬ v1 ≤ 5000) : mj_Ri m_X7_fill (d + 3) 0 0 [.ref 145, .int v1] (n, K, f, g) (fun r h1 => r = 0 ∧ ∃ n1 K1 f1 g1, h1 = (n1, K1, f1, g1) ∧ K1 145 = (2, 9, 0) ∧ f1 145 0 = 1 ∧ K1 149 = K 149 ∧ f1 149 = f 149 ∧ K1 0 = K 0) := by
  refine mj_entry (by refine ⟨by decide +kernel, by decide, rfl, Nat.le_of_ble_eq_true rfl⟩) ?_
  show mj_W _ _ _ _ _ 0 [.ref 145, .int v1] [] _
  refine mj_aload_n (i := 0) (q := 1) dX7_fill_0 rfl rfl rfl ?_
  refine mj_num1 (v := 0) (q := 2) rfl dX7_fill_1 rfl ?_
  refine mj_putf (x := 0) (q := 5) dX7_fill_2 fl_X7_23 rfl rfl (by first | assumption | simp [mj_up, mj_upl, mj_row, *]) rfl rfl rfl ?_
  refine mj_iload_n (i := 1) (q := 6) dX7_fill_5 rfl rfl rfl ?_
  refine mj_num1 (v := 1) (q := 7) rfl dX7_fill_6 rfl ?_
  refine mj_num3 (v := 5000) (q := 10) (by decide) dX7_fill_7 rfl ?_
  refine mj_kS3i (K := m_X7_is) (q := 13) (mc1 := 0) (ms1 := 0) (mc := 0) (ms := 0) dX7_fill_10 ln_X7_78 ok_X7_is (Nat.le_of_ble_eq_true rfl) (by decide) rfl rfl rfl (s_is0 hx) (fun r_10 h1 hq => ?_)
  obtain ⟨rfl, rfl⟩ := hq
  refine mj_if_ne (tgt := 22) (q := 16) dX7_fill_13 (by decide) rfl (fun c_13 => absurd (by decide) c_13) (fun c_13 => ?_)
  refine mj_aload_n (i := 0) (q := 17) dX7_fill_16 rfl rfl rfl ?_
  refine mj_num1 (v := 1) (q := 18) rfl dX7_fill_17 rfl ?_
  refine mj_kV1i (K := m_X7_refuse) (q := 21) (mc1 := 0) (ms1 := 0) (mc := 0) (ms := 0) dX7_fill_18 ln_X7_95 ok_X7_refuse (Nat.le_of_ble_eq_true rfl) (by decide) (mj_rc2 (x := 0) (ci := 9) (by first | assumption | simp [mj_up, mj_upl, mj_row, *]) rfl) rfl rfl rfl (s_refuse kX) (fun r_18 h1 hq => ?_)
  obtain ⟨rfl, rfl⟩ := hq
  exact mj_ireturn dX7_fill_21 ⟨_, rfl, rfl⟩ ⟨_, rfl, ⟨rfl, _, _, _, _, rfl, kX, mj_ups, rfl, by (repeat rw [mj_upr (by decide)]), rfl⟩⟩
set_option maxHeartbeats 100000 in
set_option maxRecDepth 100000 in
theorem rx_crowd {d n : Nat} {v1 : Int32} {K : Nat → mj_K} {f : Nat → Nat → Int32} {g : Nat → Nat → Option Nat} (kX : K 145 = (2, 9, 0)) (hx : v1 < 0 ∨ ¬ v1 ≤ 5000) : mj_Ri m_X7_crowd (d + 3) 0 0 [.ref 145, .int v1] (n, K, f, g) (fun r h1 => r = 0 ∧ ∃ n1 K1 f1 g1, h1 = (n1, K1, f1, g1) ∧ K1 145 = (2, 9, 0) ∧ f1 145 0 = 1 ∧ K1 149 = K 149 ∧ f1 149 = f 149 ∧ K1 0 = K 0) := by
  refine mj_entry (by refine ⟨by decide +kernel, by decide, rfl, Nat.le_of_ble_eq_true rfl⟩) ?_
  show mj_W _ _ _ _ _ 0 [.ref 145, .int v1, .null] [] _
  refine mj_aload_n (i := 0) (q := 1) dX7_crowd_0 rfl rfl rfl ?_
  refine mj_num1 (v := 0) (q := 2) rfl dX7_crowd_1 rfl ?_
  refine mj_putf (x := 0) (q := 5) dX7_crowd_2 fl_X7_23 rfl rfl (by first | assumption | simp [mj_up, mj_upl, mj_row, *]) rfl rfl rfl ?_
  refine mj_iload_n (i := 1) (q := 6) dX7_crowd_5 rfl rfl rfl ?_
  refine mj_num1 (v := 0) (q := 7) rfl dX7_crowd_6 rfl ?_
  refine mj_num3 (v := 5000) (q := 10) (by decide) dX7_crowd_7 rfl ?_
  refine mj_kS3i (K := m_X7_is) (q := 13) (mc1 := 0) (ms1 := 0) (mc := 0) (ms := 0) dX7_crowd_10 ln_X7_78 ok_X7_is (Nat.le_of_ble_eq_true rfl) (by decide) rfl rfl rfl (s_is0 hx) (fun r_10 h1 hq => ?_)
  obtain ⟨rfl, rfl⟩ := hq
  refine mj_if_ne (tgt := 22) (q := 16) dX7_crowd_13 (by decide) rfl (fun c_13 => absurd (by decide) c_13) (fun c_13 => ?_)
  refine mj_aload_n (i := 0) (q := 17) dX7_crowd_16 rfl rfl rfl ?_
  refine mj_num1 (v := 1) (q := 18) rfl dX7_crowd_17 rfl ?_
  refine mj_kV1i (K := m_X7_refuse) (q := 21) (mc1 := 0) (ms1 := 0) (mc := 0) (ms := 0) dX7_crowd_18 ln_X7_95 ok_X7_refuse (Nat.le_of_ble_eq_true rfl) (by decide) (mj_rc2 (x := 0) (ci := 9) (by first | assumption | simp [mj_up, mj_upl, mj_row, *]) rfl) rfl rfl rfl (s_refuse kX) (fun r_18 h1 hq => ?_)
  obtain ⟨rfl, rfl⟩ := hq
  exact mj_ireturn dX7_crowd_21 ⟨_, rfl, rfl⟩ ⟨_, rfl, ⟨rfl, _, _, _, _, rfl, kX, mj_ups, rfl, by (repeat rw [mj_upr (by decide)]), rfl⟩⟩
set_option maxHeartbeats 100000 in
set_option maxRecDepth 100000 in
theorem rx_many {d n : Nat} {v1 : Int32} {K : Nat → mj_K} {f : Nat → Nat → Int32} {g : Nat → Nat → Option Nat} (kX : K 145 = (2, 9, 0)) (hx : v1 < 0 ∨ ¬ v1 ≤ 14) : mj_Ri m_X7_many (d + 3) 0 0 [.ref 145, .int v1] (n, K, f, g) (fun r h1 => r = 0 ∧ ∃ n1 K1 f1 g1, h1 = (n1, K1, f1, g1) ∧ K1 145 = (2, 9, 0) ∧ f1 145 0 = 1 ∧ K1 149 = K 149 ∧ f1 149 = f 149 ∧ K1 0 = K 0) := by
  refine mj_entry (by refine ⟨by decide +kernel, by decide, rfl, Nat.le_of_ble_eq_true rfl⟩) ?_
  show mj_W _ _ _ _ _ 0 [.ref 145, .int v1] [] _
  refine mj_aload_n (i := 0) (q := 1) dX7_many_0 rfl rfl rfl ?_
  refine mj_num1 (v := 0) (q := 2) rfl dX7_many_1 rfl ?_
  refine mj_putf (x := 0) (q := 5) dX7_many_2 fl_X7_23 rfl rfl (by first | assumption | simp [mj_up, mj_upl, mj_row, *]) rfl rfl rfl ?_
  refine mj_iload_n (i := 1) (q := 6) dX7_many_5 rfl rfl rfl ?_
  refine mj_num1 (v := 0) (q := 7) rfl dX7_many_6 rfl ?_
  refine mj_num2 (v := 14) (q := 9) (by decide) dX7_many_7 rfl ?_
  refine mj_kS3i (K := m_X7_is) (q := 12) (mc1 := 0) (ms1 := 0) (mc := 0) (ms := 0) dX7_many_9 ln_X7_78 ok_X7_is (Nat.le_of_ble_eq_true rfl) (by decide) rfl rfl rfl (s_is0 hx) (fun r_9 h1 hq => ?_)
  obtain ⟨rfl, rfl⟩ := hq
  refine mj_if_eq (tgt := 23) (q := 15) dX7_many_12 (by decide) rfl (fun c_12 => ?_) (fun c_12 => absurd (by decide) c_12)
  refine mj_aload_n (i := 0) (q := 24) dX7_many_23 rfl rfl rfl ?_
  refine mj_num1 (v := 1) (q := 25) rfl dX7_many_24 rfl ?_
  refine mj_kV1i (K := m_X7_refuse) (q := 28) (mc1 := 0) (ms1 := 0) (mc := 0) (ms := 0) dX7_many_25 ln_X7_95 ok_X7_refuse (Nat.le_of_ble_eq_true rfl) (by decide) (mj_rc2 (x := 0) (ci := 9) (by first | assumption | simp [mj_up, mj_upl, mj_row, *]) rfl) rfl rfl rfl (s_refuse kX) (fun r_25 h1 hq => ?_)
  obtain ⟨rfl, rfl⟩ := hq
  exact mj_ireturn dX7_many_28 ⟨_, rfl, rfl⟩ ⟨_, rfl, ⟨rfl, _, _, _, _, rfl, kX, mj_ups, rfl, by (repeat rw [mj_upr (by decide)]), rfl⟩⟩
set_option maxHeartbeats 100000 in
set_option maxRecDepth 100000 in
theorem rx_lift1 {d n : Nat} {v1 v2 : Int32} {K : Nat → mj_K} {f : Nat → Nat → Int32} {g : Nat → Nat → Option Nat} (kX : K 145 = (2, 9, 0)) (hx : v1 < 10 ∨ ¬ v1 ≤ 999) : mj_Ri m_X7_lift (d + 3) 0 0 [.ref 145, .int v1, .int v2] (n, K, f, g) (fun r h1 => r = 0 ∧ ∃ n1 K1 f1 g1, h1 = (n1, K1, f1, g1) ∧ K1 145 = (2, 9, 0) ∧ f1 145 0 = 1 ∧ K1 149 = K 149 ∧ f1 149 = f 149 ∧ K1 0 = K 0) := by
  refine mj_entry (by refine ⟨by decide +kernel, by decide, rfl, Nat.le_of_ble_eq_true rfl⟩) ?_
  show mj_W _ _ _ _ _ 0 [.ref 145, .int v1, .int v2, .null] [] _
  refine mj_aload_n (i := 0) (q := 1) dX7_lift_0 rfl rfl rfl ?_
  refine mj_num1 (v := 0) (q := 2) rfl dX7_lift_1 rfl ?_
  refine mj_putf (x := 0) (q := 5) dX7_lift_2 fl_X7_23 rfl rfl (by first | assumption | simp [mj_up, mj_upl, mj_row, *]) rfl rfl rfl ?_
  refine mj_iload_n (i := 1) (q := 6) dX7_lift_5 rfl rfl rfl ?_
  refine mj_num2 (v := 10) (q := 8) (by decide) dX7_lift_6 rfl ?_
  refine mj_num3 (v := 999) (q := 11) (by decide) dX7_lift_8 rfl ?_
  refine mj_kS3i (K := m_X7_is) (q := 14) (mc1 := 0) (ms1 := 0) (mc := 0) (ms := 0) dX7_lift_11 ln_X7_78 ok_X7_is (Nat.le_of_ble_eq_true rfl) (by decide) rfl rfl rfl (s_is0 hx) (fun r_11 h1 hq => ?_)
  obtain ⟨rfl, rfl⟩ := hq
  refine mj_if_eq (tgt := 27) (q := 17) dX7_lift_14 (by decide) rfl (fun c_14 => ?_) (fun c_14 => absurd (by decide) c_14)
  refine mj_aload_n (i := 0) (q := 28) dX7_lift_27 rfl rfl rfl ?_
  refine mj_num1 (v := 1) (q := 29) rfl dX7_lift_28 rfl ?_
  refine mj_kV1i (K := m_X7_refuse) (q := 32) (mc1 := 0) (ms1 := 0) (mc := 0) (ms := 0) dX7_lift_29 ln_X7_95 ok_X7_refuse (Nat.le_of_ble_eq_true rfl) (by decide) (mj_rc2 (x := 0) (ci := 9) (by first | assumption | simp [mj_up, mj_upl, mj_row, *]) rfl) rfl rfl rfl (s_refuse kX) (fun r_29 h1 hq => ?_)
  obtain ⟨rfl, rfl⟩ := hq
  exact mj_ireturn dX7_lift_32 ⟨_, rfl, rfl⟩ ⟨_, rfl, ⟨rfl, _, _, _, _, rfl, kX, mj_ups, rfl, by (repeat rw [mj_upr (by decide)]), rfl⟩⟩
set_option maxHeartbeats 100000 in
set_option maxRecDepth 100000 in
theorem rx_lift2 {d n : Nat} {v1 v2 : Int32} {K : Nat → mj_K} {f : Nat → Nat → Int32} {g : Nat → Nat → Option Nat} (kX : K 145 = (2, 9, 0)) (h1 : ¬ v1 < 10) (h2 : v1 ≤ 999) (hx : v2 < 3 ∨ ¬ v2 ≤ 9) : mj_Ri m_X7_lift (d + 3) 0 0 [.ref 145, .int v1, .int v2] (n, K, f, g) (fun r h1 => r = 0 ∧ ∃ n1 K1 f1 g1, h1 = (n1, K1, f1, g1) ∧ K1 145 = (2, 9, 0) ∧ f1 145 0 = 1 ∧ K1 149 = K 149 ∧ f1 149 = f 149 ∧ K1 0 = K 0) := by
  refine mj_entry (by refine ⟨by decide +kernel, by decide, rfl, Nat.le_of_ble_eq_true rfl⟩) ?_
  show mj_W _ _ _ _ _ 0 [.ref 145, .int v1, .int v2, .null] [] _
  refine mj_aload_n (i := 0) (q := 1) dX7_lift_0 rfl rfl rfl ?_
  refine mj_num1 (v := 0) (q := 2) rfl dX7_lift_1 rfl ?_
  refine mj_putf (x := 0) (q := 5) dX7_lift_2 fl_X7_23 rfl rfl (by first | assumption | simp [mj_up, mj_upl, mj_row, *]) rfl rfl rfl ?_
  refine mj_iload_n (i := 1) (q := 6) dX7_lift_5 rfl rfl rfl ?_
  refine mj_num2 (v := 10) (q := 8) (by decide) dX7_lift_6 rfl ?_
  refine mj_num3 (v := 999) (q := 11) (by decide) dX7_lift_8 rfl ?_
  refine mj_kS3i (K := m_X7_is) (q := 14) (mc1 := 0) (ms1 := 0) (mc := 0) (ms := 0) dX7_lift_11 ln_X7_78 ok_X7_is (Nat.le_of_ble_eq_true rfl) (by decide) rfl rfl rfl (s_is1 h1 h2) (fun r_11 h1 hq => ?_)
  obtain ⟨rfl, rfl⟩ := hq
  refine mj_if_eq (tgt := 27) (q := 17) dX7_lift_14 (by decide) rfl (fun c_14 => absurd c_14 (by decide)) (fun c_14 => ?_)
  refine mj_iload_n (i := 2) (q := 18) dX7_lift_17 rfl rfl rfl ?_
  refine mj_num1 (v := 3) (q := 19) rfl dX7_lift_18 rfl ?_
  refine mj_num2 (v := 9) (q := 21) (by decide) dX7_lift_19 rfl ?_
  refine mj_kS3i (K := m_X7_is) (q := 24) (mc1 := 0) (ms1 := 0) (mc := 0) (ms := 0) dX7_lift_21 ln_X7_78 ok_X7_is (Nat.le_of_ble_eq_true rfl) (by decide) rfl rfl rfl (s_is0 hx) (fun r_21 h1 hq => ?_)
  obtain ⟨rfl, rfl⟩ := hq
  refine mj_if_ne (tgt := 33) (q := 27) dX7_lift_24 (by decide) rfl (fun c_24 => absurd (by decide) c_24) (fun c_24 => ?_)
  refine mj_aload_n (i := 0) (q := 28) dX7_lift_27 rfl rfl rfl ?_
  refine mj_num1 (v := 1) (q := 29) rfl dX7_lift_28 rfl ?_
  refine mj_kV1i (K := m_X7_refuse) (q := 32) (mc1 := 0) (ms1 := 0) (mc := 0) (ms := 0) dX7_lift_29 ln_X7_95 ok_X7_refuse (Nat.le_of_ble_eq_true rfl) (by decide) (mj_rc2 (x := 0) (ci := 9) (by first | assumption | simp [mj_up, mj_upl, mj_row, *]) rfl) rfl rfl rfl (s_refuse kX) (fun r_29 h1 hq => ?_)
  obtain ⟨rfl, rfl⟩ := hq
  exact mj_ireturn dX7_lift_32 ⟨_, rfl, rfl⟩ ⟨_, rfl, ⟨rfl, _, _, _, _, rfl, kX, mj_ups, rfl, by (repeat rw [mj_upr (by decide)]), rfl⟩⟩
set_option maxHeartbeats 100000 in
set_option maxRecDepth 100000 in
theorem s_areHours1 {d : Nat} {v : Int32} {h : mj_H} (h1 : ¬ v < 1) (h2 : v ≤ 48) : mj_Ri m_X7_areHours (d + 2) 0 0 [.int v] h (fun r h1 => r = 1 ∧ h1 = h) := by
  refine mj_entry (by refine ⟨by decide +kernel, by decide, rfl, Nat.le_of_ble_eq_true rfl⟩) ?_
  show mj_W _ _ _ _ _ 0 [.int v] [] _
  refine mj_iload_n (i := 0) (q := 1) dX7_areHours_0 rfl rfl rfl ?_
  refine mj_num1 (v := 1) (q := 2) rfl dX7_areHours_1 rfl ?_
  refine mj_num2 (v := 48) (q := 4) (by decide) dX7_areHours_2 rfl ?_
  refine mj_kS3i (K := m_X7_is) (q := 7) (mc1 := 0) (ms1 := 0) (mc := 0) (ms := 0) dX7_areHours_4 ln_X7_78 ok_X7_is (Nat.le_of_ble_eq_true rfl) (by decide) rfl rfl rfl (s_is1 h1 h2) (fun r_4 h1 hq => ?_)
  obtain ⟨rfl, rfl⟩ := hq
  exact mj_ireturn dX7_areHours_7 ⟨_, rfl, rfl⟩ ⟨_, rfl, ⟨rfl, rfl⟩⟩
set_option maxHeartbeats 100000 in
set_option maxRecDepth 100000 in
theorem s_areHours0 {d : Nat} {v : Int32} {h : mj_H} (hx : v < 1 ∨ ¬ v ≤ 48) : mj_Ri m_X7_areHours (d + 2) 0 0 [.int v] h (fun r h1 => r = 0 ∧ h1 = h) := by
  refine mj_entry (by refine ⟨by decide +kernel, by decide, rfl, Nat.le_of_ble_eq_true rfl⟩) ?_
  show mj_W _ _ _ _ _ 0 [.int v] [] _
  refine mj_iload_n (i := 0) (q := 1) dX7_areHours_0 rfl rfl rfl ?_
  refine mj_num1 (v := 1) (q := 2) rfl dX7_areHours_1 rfl ?_
  refine mj_num2 (v := 48) (q := 4) (by decide) dX7_areHours_2 rfl ?_
  refine mj_kS3i (K := m_X7_is) (q := 7) (mc1 := 0) (ms1 := 0) (mc := 0) (ms := 0) dX7_areHours_4 ln_X7_78 ok_X7_is (Nat.le_of_ble_eq_true rfl) (by decide) rfl rfl rfl (s_is0 hx) (fun r_4 h1 hq => ?_)
  obtain ⟨rfl, rfl⟩ := hq
  exact mj_ireturn dX7_areHours_7 ⟨_, rfl, rfl⟩ ⟨_, rfl, ⟨rfl, rfl⟩⟩
set_option maxHeartbeats 100000 in
set_option maxRecDepth 100000 in
theorem s_isWarmth1 {d : Nat} {v : Int32} {h : mj_H} (h1 : ¬ v < -20) (h2 : v ≤ 20) : mj_Ri m_X7_isWarmth (d + 2) 0 0 [.int v] h (fun r h1 => r = 1 ∧ h1 = h) := by
  refine mj_entry (by refine ⟨by decide +kernel, by decide, rfl, Nat.le_of_ble_eq_true rfl⟩) ?_
  show mj_W _ _ _ _ _ 0 [.int v] [] _
  refine mj_iload_n (i := 0) (q := 1) dX7_isWarmth_0 rfl rfl rfl ?_
  refine mj_num2 (v := (-20)) (q := 3) (by decide) dX7_isWarmth_1 rfl ?_
  refine mj_num2 (v := 20) (q := 5) (by decide) dX7_isWarmth_3 rfl ?_
  refine mj_kS3i (K := m_X7_is) (q := 8) (mc1 := 0) (ms1 := 0) (mc := 0) (ms := 0) dX7_isWarmth_5 ln_X7_78 ok_X7_is (Nat.le_of_ble_eq_true rfl) (by decide) rfl rfl rfl (s_is1 h1 h2) (fun r_5 h1 hq => ?_)
  obtain ⟨rfl, rfl⟩ := hq
  exact mj_ireturn dX7_isWarmth_8 ⟨_, rfl, rfl⟩ ⟨_, rfl, ⟨rfl, rfl⟩⟩
set_option maxHeartbeats 100000 in
set_option maxRecDepth 100000 in
theorem s_isWarmth0 {d : Nat} {v : Int32} {h : mj_H} (hx : v < -20 ∨ ¬ v ≤ 20) : mj_Ri m_X7_isWarmth (d + 2) 0 0 [.int v] h (fun r h1 => r = 0 ∧ h1 = h) := by
  refine mj_entry (by refine ⟨by decide +kernel, by decide, rfl, Nat.le_of_ble_eq_true rfl⟩) ?_
  show mj_W _ _ _ _ _ 0 [.int v] [] _
  refine mj_iload_n (i := 0) (q := 1) dX7_isWarmth_0 rfl rfl rfl ?_
  refine mj_num2 (v := (-20)) (q := 3) (by decide) dX7_isWarmth_1 rfl ?_
  refine mj_num2 (v := 20) (q := 5) (by decide) dX7_isWarmth_3 rfl ?_
  refine mj_kS3i (K := m_X7_is) (q := 8) (mc1 := 0) (ms1 := 0) (mc := 0) (ms := 0) dX7_isWarmth_5 ln_X7_78 ok_X7_is (Nat.le_of_ble_eq_true rfl) (by decide) rfl rfl rfl (s_is0 hx) (fun r_5 h1 hq => ?_)
  obtain ⟨rfl, rfl⟩ := hq
  exact mj_ireturn dX7_isWarmth_8 ⟨_, rfl, rfl⟩ ⟨_, rfl, ⟨rfl, rfl⟩⟩
set_option maxHeartbeats 100000 in
set_option maxRecDepth 100000 in
theorem rx_pass0 {d n : Nat} {v1 v2 v3 v4 v5 v6 : Int32} {K : Nat → mj_K} {f : Nat → Nat → Int32} {g : Nat → Nat → Option Nat} (kX : K 145 = (2, 9, 0))  (hx : v1 < 1 ∨ ¬ v1 ≤ 48) : mj_Ri m_X7_pass (d + 3) 0 0 [.ref 145, .int v1, .int v2, .int v3, .int v4, .int v5, .int v6] (n, K, f, g) (fun r h1 => r = 0 ∧ ∃ n1 K1 f1 g1, h1 = (n1, K1, f1, g1) ∧ K1 145 = (2, 9, 0) ∧ f1 145 0 = 1 ∧ K1 149 = K 149 ∧ f1 149 = f 149 ∧ K1 0 = K 0) := by
  refine mj_entry (by refine ⟨by decide +kernel, by decide, rfl, Nat.le_of_ble_eq_true rfl⟩) ?_
  show mj_W _ _ _ _ _ 0 [.ref 145, .int v1, .int v2, .int v3, .int v4, .int v5, .int v6, .null, .null] [] _
  refine mj_aload_n (i := 0) (q := 1) dX7_pass_0 rfl rfl rfl ?_
  refine mj_num1 (v := 0) (q := 2) rfl dX7_pass_1 rfl ?_
  refine mj_putf (x := 0) (q := 5) dX7_pass_2 fl_X7_23 rfl rfl (by first | assumption | simp [mj_up, mj_upl, mj_row, *]) rfl rfl rfl ?_
  refine mj_iload_n (i := 1) (q := 6) dX7_pass_5 rfl rfl rfl ?_
  refine mj_kS1i (K := m_X7_areHours) (q := 9) (mc1 := 0) (ms1 := 0) (mc := 0) (ms := 0) dX7_pass_6 ln_X7_119 ok_X7_areHours (Nat.le_of_ble_eq_true rfl) (by decide) rfl rfl rfl (s_areHours0 hx) (fun r_6 h1 hq => ?_)
  obtain ⟨rfl, rfl⟩ := hq
  refine mj_if_eq (tgt := 61) (q := 12) dX7_pass_9 (by decide) rfl (fun c_9 => ?_) (fun c_9 => absurd (by decide) c_9)
  refine mj_aload_n (i := 0) (q := 62) dX7_pass_61 rfl rfl rfl ?_
  refine mj_num1 (v := 1) (q := 63) rfl dX7_pass_62 rfl ?_
  refine mj_kV1i (K := m_X7_refuse) (q := 66) (mc1 := 0) (ms1 := 0) (mc := 0) (ms := 0) dX7_pass_63 ln_X7_95 ok_X7_refuse (Nat.le_of_ble_eq_true rfl) (by decide) (mj_rc2 (x := 0) (ci := 9) (by first | assumption | simp [mj_up, mj_upl, mj_row, *]) rfl) rfl rfl rfl (s_refuse kX) (fun r_63 h1 hq => ?_)
  obtain ⟨rfl, rfl⟩ := hq
  exact mj_ireturn dX7_pass_66 ⟨_, rfl, rfl⟩ ⟨_, rfl, ⟨rfl, _, _, _, _, rfl, kX, mj_ups, rfl, by (repeat rw [mj_upr (by decide)]), rfl⟩⟩
set_option maxHeartbeats 100000 in
set_option maxRecDepth 100000 in
theorem rx_pass1 {d n : Nat} {v1 v2 v3 v4 v5 v6 : Int32} {K : Nat → mj_K} {f : Nat → Nat → Int32} {g : Nat → Nat → Option Nat} (kX : K 145 = (2, 9, 0)) (h0a : ¬ v1 < 1) (h0b : v1 ≤ 48) (hx : v2 < -20 ∨ ¬ v2 ≤ 20) : mj_Ri m_X7_pass (d + 3) 0 0 [.ref 145, .int v1, .int v2, .int v3, .int v4, .int v5, .int v6] (n, K, f, g) (fun r h1 => r = 0 ∧ ∃ n1 K1 f1 g1, h1 = (n1, K1, f1, g1) ∧ K1 145 = (2, 9, 0) ∧ f1 145 0 = 1 ∧ K1 149 = K 149 ∧ f1 149 = f 149 ∧ K1 0 = K 0) := by
  refine mj_entry (by refine ⟨by decide +kernel, by decide, rfl, Nat.le_of_ble_eq_true rfl⟩) ?_
  show mj_W _ _ _ _ _ 0 [.ref 145, .int v1, .int v2, .int v3, .int v4, .int v5, .int v6, .null, .null] [] _
  refine mj_aload_n (i := 0) (q := 1) dX7_pass_0 rfl rfl rfl ?_
  refine mj_num1 (v := 0) (q := 2) rfl dX7_pass_1 rfl ?_
  refine mj_putf (x := 0) (q := 5) dX7_pass_2 fl_X7_23 rfl rfl (by first | assumption | simp [mj_up, mj_upl, mj_row, *]) rfl rfl rfl ?_
  refine mj_iload_n (i := 1) (q := 6) dX7_pass_5 rfl rfl rfl ?_
  refine mj_kS1i (K := m_X7_areHours) (q := 9) (mc1 := 0) (ms1 := 0) (mc := 0) (ms := 0) dX7_pass_6 ln_X7_119 ok_X7_areHours (Nat.le_of_ble_eq_true rfl) (by decide) rfl rfl rfl (s_areHours1 h0a h0b) (fun r_6 h1 hq => ?_)
  obtain ⟨rfl, rfl⟩ := hq
  refine mj_if_eq (tgt := 61) (q := 12) dX7_pass_9 (by decide) rfl (fun c_9 => absurd c_9 (by decide)) (fun c_9 => ?_)
  refine mj_iload_n (i := 2) (q := 13) dX7_pass_12 rfl rfl rfl ?_
  refine mj_kS1i (K := m_X7_isWarmth) (q := 16) (mc1 := 0) (ms1 := 0) (mc := 0) (ms := 0) dX7_pass_13 ln_X7_122 ok_X7_isWarmth (Nat.le_of_ble_eq_true rfl) (by decide) rfl rfl rfl (s_isWarmth0 hx) (fun r_13 h1 hq => ?_)
  obtain ⟨rfl, rfl⟩ := hq
  refine mj_if_eq (tgt := 61) (q := 19) dX7_pass_16 (by decide) rfl (fun c_16 => ?_) (fun c_16 => absurd (by decide) c_16)
  refine mj_aload_n (i := 0) (q := 62) dX7_pass_61 rfl rfl rfl ?_
  refine mj_num1 (v := 1) (q := 63) rfl dX7_pass_62 rfl ?_
  refine mj_kV1i (K := m_X7_refuse) (q := 66) (mc1 := 0) (ms1 := 0) (mc := 0) (ms := 0) dX7_pass_63 ln_X7_95 ok_X7_refuse (Nat.le_of_ble_eq_true rfl) (by decide) (mj_rc2 (x := 0) (ci := 9) (by first | assumption | simp [mj_up, mj_upl, mj_row, *]) rfl) rfl rfl rfl (s_refuse kX) (fun r_63 h1 hq => ?_)
  obtain ⟨rfl, rfl⟩ := hq
  exact mj_ireturn dX7_pass_66 ⟨_, rfl, rfl⟩ ⟨_, rfl, ⟨rfl, _, _, _, _, rfl, kX, mj_ups, rfl, by (repeat rw [mj_upr (by decide)]), rfl⟩⟩
set_option maxHeartbeats 100000 in
set_option maxRecDepth 100000 in
theorem rx_pass2 {d n : Nat} {v1 v2 v3 v4 v5 v6 : Int32} {K : Nat → mj_K} {f : Nat → Nat → Int32} {g : Nat → Nat → Option Nat} (kX : K 145 = (2, 9, 0)) (h0a : ¬ v1 < 1) (h0b : v1 ≤ 48) (h1a : ¬ v2 < -20) (h1b : v2 ≤ 20) (hx : v3 < 0 ∨ ¬ v3 ≤ 9) : mj_Ri m_X7_pass (d + 3) 0 0 [.ref 145, .int v1, .int v2, .int v3, .int v4, .int v5, .int v6] (n, K, f, g) (fun r h1 => r = 0 ∧ ∃ n1 K1 f1 g1, h1 = (n1, K1, f1, g1) ∧ K1 145 = (2, 9, 0) ∧ f1 145 0 = 1 ∧ K1 149 = K 149 ∧ f1 149 = f 149 ∧ K1 0 = K 0) := by
  refine mj_entry (by refine ⟨by decide +kernel, by decide, rfl, Nat.le_of_ble_eq_true rfl⟩) ?_
  show mj_W _ _ _ _ _ 0 [.ref 145, .int v1, .int v2, .int v3, .int v4, .int v5, .int v6, .null, .null] [] _
  refine mj_aload_n (i := 0) (q := 1) dX7_pass_0 rfl rfl rfl ?_
  refine mj_num1 (v := 0) (q := 2) rfl dX7_pass_1 rfl ?_
  refine mj_putf (x := 0) (q := 5) dX7_pass_2 fl_X7_23 rfl rfl (by first | assumption | simp [mj_up, mj_upl, mj_row, *]) rfl rfl rfl ?_
  refine mj_iload_n (i := 1) (q := 6) dX7_pass_5 rfl rfl rfl ?_
  refine mj_kS1i (K := m_X7_areHours) (q := 9) (mc1 := 0) (ms1 := 0) (mc := 0) (ms := 0) dX7_pass_6 ln_X7_119 ok_X7_areHours (Nat.le_of_ble_eq_true rfl) (by decide) rfl rfl rfl (s_areHours1 h0a h0b) (fun r_6 h1 hq => ?_)
  obtain ⟨rfl, rfl⟩ := hq
  refine mj_if_eq (tgt := 61) (q := 12) dX7_pass_9 (by decide) rfl (fun c_9 => absurd c_9 (by decide)) (fun c_9 => ?_)
  refine mj_iload_n (i := 2) (q := 13) dX7_pass_12 rfl rfl rfl ?_
  refine mj_kS1i (K := m_X7_isWarmth) (q := 16) (mc1 := 0) (ms1 := 0) (mc := 0) (ms := 0) dX7_pass_13 ln_X7_122 ok_X7_isWarmth (Nat.le_of_ble_eq_true rfl) (by decide) rfl rfl rfl (s_isWarmth1 h1a h1b) (fun r_13 h1 hq => ?_)
  obtain ⟨rfl, rfl⟩ := hq
  refine mj_if_eq (tgt := 61) (q := 19) dX7_pass_16 (by decide) rfl (fun c_16 => absurd c_16 (by decide)) (fun c_16 => ?_)
  refine mj_iload_n (i := 3) (q := 20) dX7_pass_19 rfl rfl rfl ?_
  refine mj_num1 (v := 0) (q := 21) rfl dX7_pass_20 rfl ?_
  refine mj_num2 (v := 9) (q := 23) (by decide) dX7_pass_21 rfl ?_
  refine mj_kS3i (K := m_X7_is) (q := 26) (mc1 := 0) (ms1 := 0) (mc := 0) (ms := 0) dX7_pass_23 ln_X7_78 ok_X7_is (Nat.le_of_ble_eq_true rfl) (by decide) rfl rfl rfl (s_is0 hx) (fun r_23 h1 hq => ?_)
  obtain ⟨rfl, rfl⟩ := hq
  refine mj_if_eq (tgt := 61) (q := 29) dX7_pass_26 (by decide) rfl (fun c_26 => ?_) (fun c_26 => absurd (by decide) c_26)
  refine mj_aload_n (i := 0) (q := 62) dX7_pass_61 rfl rfl rfl ?_
  refine mj_num1 (v := 1) (q := 63) rfl dX7_pass_62 rfl ?_
  refine mj_kV1i (K := m_X7_refuse) (q := 66) (mc1 := 0) (ms1 := 0) (mc := 0) (ms := 0) dX7_pass_63 ln_X7_95 ok_X7_refuse (Nat.le_of_ble_eq_true rfl) (by decide) (mj_rc2 (x := 0) (ci := 9) (by first | assumption | simp [mj_up, mj_upl, mj_row, *]) rfl) rfl rfl rfl (s_refuse kX) (fun r_63 h1 hq => ?_)
  obtain ⟨rfl, rfl⟩ := hq
  exact mj_ireturn dX7_pass_66 ⟨_, rfl, rfl⟩ ⟨_, rfl, ⟨rfl, _, _, _, _, rfl, kX, mj_ups, rfl, by (repeat rw [mj_upr (by decide)]), rfl⟩⟩
set_option maxHeartbeats 100000 in
set_option maxRecDepth 100000 in
theorem rx_pass3 {d n : Nat} {v1 v2 v3 v4 v5 v6 : Int32} {K : Nat → mj_K} {f : Nat → Nat → Int32} {g : Nat → Nat → Option Nat} (kX : K 145 = (2, 9, 0)) (h0a : ¬ v1 < 1) (h0b : v1 ≤ 48) (h1a : ¬ v2 < -20) (h1b : v2 ≤ 20) (h2a : ¬ v3 < 0) (h2b : v3 ≤ 9) (hx : v4 < 0 ∨ ¬ v4 ≤ 9) : mj_Ri m_X7_pass (d + 3) 0 0 [.ref 145, .int v1, .int v2, .int v3, .int v4, .int v5, .int v6] (n, K, f, g) (fun r h1 => r = 0 ∧ ∃ n1 K1 f1 g1, h1 = (n1, K1, f1, g1) ∧ K1 145 = (2, 9, 0) ∧ f1 145 0 = 1 ∧ K1 149 = K 149 ∧ f1 149 = f 149 ∧ K1 0 = K 0) := by
  refine mj_entry (by refine ⟨by decide +kernel, by decide, rfl, Nat.le_of_ble_eq_true rfl⟩) ?_
  show mj_W _ _ _ _ _ 0 [.ref 145, .int v1, .int v2, .int v3, .int v4, .int v5, .int v6, .null, .null] [] _
  refine mj_aload_n (i := 0) (q := 1) dX7_pass_0 rfl rfl rfl ?_
  refine mj_num1 (v := 0) (q := 2) rfl dX7_pass_1 rfl ?_
  refine mj_putf (x := 0) (q := 5) dX7_pass_2 fl_X7_23 rfl rfl (by first | assumption | simp [mj_up, mj_upl, mj_row, *]) rfl rfl rfl ?_
  refine mj_iload_n (i := 1) (q := 6) dX7_pass_5 rfl rfl rfl ?_
  refine mj_kS1i (K := m_X7_areHours) (q := 9) (mc1 := 0) (ms1 := 0) (mc := 0) (ms := 0) dX7_pass_6 ln_X7_119 ok_X7_areHours (Nat.le_of_ble_eq_true rfl) (by decide) rfl rfl rfl (s_areHours1 h0a h0b) (fun r_6 h1 hq => ?_)
  obtain ⟨rfl, rfl⟩ := hq
  refine mj_if_eq (tgt := 61) (q := 12) dX7_pass_9 (by decide) rfl (fun c_9 => absurd c_9 (by decide)) (fun c_9 => ?_)
  refine mj_iload_n (i := 2) (q := 13) dX7_pass_12 rfl rfl rfl ?_
  refine mj_kS1i (K := m_X7_isWarmth) (q := 16) (mc1 := 0) (ms1 := 0) (mc := 0) (ms := 0) dX7_pass_13 ln_X7_122 ok_X7_isWarmth (Nat.le_of_ble_eq_true rfl) (by decide) rfl rfl rfl (s_isWarmth1 h1a h1b) (fun r_13 h1 hq => ?_)
  obtain ⟨rfl, rfl⟩ := hq
  refine mj_if_eq (tgt := 61) (q := 19) dX7_pass_16 (by decide) rfl (fun c_16 => absurd c_16 (by decide)) (fun c_16 => ?_)
  refine mj_iload_n (i := 3) (q := 20) dX7_pass_19 rfl rfl rfl ?_
  refine mj_num1 (v := 0) (q := 21) rfl dX7_pass_20 rfl ?_
  refine mj_num2 (v := 9) (q := 23) (by decide) dX7_pass_21 rfl ?_
  refine mj_kS3i (K := m_X7_is) (q := 26) (mc1 := 0) (ms1 := 0) (mc := 0) (ms := 0) dX7_pass_23 ln_X7_78 ok_X7_is (Nat.le_of_ble_eq_true rfl) (by decide) rfl rfl rfl (s_is1 h2a h2b) (fun r_23 h1 hq => ?_)
  obtain ⟨rfl, rfl⟩ := hq
  refine mj_if_eq (tgt := 61) (q := 29) dX7_pass_26 (by decide) rfl (fun c_26 => absurd c_26 (by decide)) (fun c_26 => ?_)
  refine mj_iload (i := 4) (q := 31) dX7_pass_29 rfl rfl ?_
  refine mj_num1 (v := 0) (q := 32) rfl dX7_pass_31 rfl ?_
  refine mj_num2 (v := 9) (q := 34) (by decide) dX7_pass_32 rfl ?_
  refine mj_kS3i (K := m_X7_is) (q := 37) (mc1 := 0) (ms1 := 0) (mc := 0) (ms := 0) dX7_pass_34 ln_X7_78 ok_X7_is (Nat.le_of_ble_eq_true rfl) (by decide) rfl rfl rfl (s_is0 hx) (fun r_34 h1 hq => ?_)
  obtain ⟨rfl, rfl⟩ := hq
  refine mj_if_eq (tgt := 61) (q := 40) dX7_pass_37 (by decide) rfl (fun c_37 => ?_) (fun c_37 => absurd (by decide) c_37)
  refine mj_aload_n (i := 0) (q := 62) dX7_pass_61 rfl rfl rfl ?_
  refine mj_num1 (v := 1) (q := 63) rfl dX7_pass_62 rfl ?_
  refine mj_kV1i (K := m_X7_refuse) (q := 66) (mc1 := 0) (ms1 := 0) (mc := 0) (ms := 0) dX7_pass_63 ln_X7_95 ok_X7_refuse (Nat.le_of_ble_eq_true rfl) (by decide) (mj_rc2 (x := 0) (ci := 9) (by first | assumption | simp [mj_up, mj_upl, mj_row, *]) rfl) rfl rfl rfl (s_refuse kX) (fun r_63 h1 hq => ?_)
  obtain ⟨rfl, rfl⟩ := hq
  exact mj_ireturn dX7_pass_66 ⟨_, rfl, rfl⟩ ⟨_, rfl, ⟨rfl, _, _, _, _, rfl, kX, mj_ups, rfl, by (repeat rw [mj_upr (by decide)]), rfl⟩⟩
set_option maxHeartbeats 100000 in
set_option maxRecDepth 100000 in
theorem rx_pass4 {d n : Nat} {v1 v2 v3 v4 v5 v6 : Int32} {K : Nat → mj_K} {f : Nat → Nat → Int32} {g : Nat → Nat → Option Nat} (kX : K 145 = (2, 9, 0)) (h0a : ¬ v1 < 1) (h0b : v1 ≤ 48) (h1a : ¬ v2 < -20) (h1b : v2 ≤ 20) (h2a : ¬ v3 < 0) (h2b : v3 ≤ 9) (h3a : ¬ v4 < 0) (h3b : v4 ≤ 9) (hx : v5 < 0 ∨ ¬ v5 ≤ 3) : mj_Ri m_X7_pass (d + 3) 0 0 [.ref 145, .int v1, .int v2, .int v3, .int v4, .int v5, .int v6] (n, K, f, g) (fun r h1 => r = 0 ∧ ∃ n1 K1 f1 g1, h1 = (n1, K1, f1, g1) ∧ K1 145 = (2, 9, 0) ∧ f1 145 0 = 1 ∧ K1 149 = K 149 ∧ f1 149 = f 149 ∧ K1 0 = K 0) := by
  refine mj_entry (by refine ⟨by decide +kernel, by decide, rfl, Nat.le_of_ble_eq_true rfl⟩) ?_
  show mj_W _ _ _ _ _ 0 [.ref 145, .int v1, .int v2, .int v3, .int v4, .int v5, .int v6, .null, .null] [] _
  refine mj_aload_n (i := 0) (q := 1) dX7_pass_0 rfl rfl rfl ?_
  refine mj_num1 (v := 0) (q := 2) rfl dX7_pass_1 rfl ?_
  refine mj_putf (x := 0) (q := 5) dX7_pass_2 fl_X7_23 rfl rfl (by first | assumption | simp [mj_up, mj_upl, mj_row, *]) rfl rfl rfl ?_
  refine mj_iload_n (i := 1) (q := 6) dX7_pass_5 rfl rfl rfl ?_
  refine mj_kS1i (K := m_X7_areHours) (q := 9) (mc1 := 0) (ms1 := 0) (mc := 0) (ms := 0) dX7_pass_6 ln_X7_119 ok_X7_areHours (Nat.le_of_ble_eq_true rfl) (by decide) rfl rfl rfl (s_areHours1 h0a h0b) (fun r_6 h1 hq => ?_)
  obtain ⟨rfl, rfl⟩ := hq
  refine mj_if_eq (tgt := 61) (q := 12) dX7_pass_9 (by decide) rfl (fun c_9 => absurd c_9 (by decide)) (fun c_9 => ?_)
  refine mj_iload_n (i := 2) (q := 13) dX7_pass_12 rfl rfl rfl ?_
  refine mj_kS1i (K := m_X7_isWarmth) (q := 16) (mc1 := 0) (ms1 := 0) (mc := 0) (ms := 0) dX7_pass_13 ln_X7_122 ok_X7_isWarmth (Nat.le_of_ble_eq_true rfl) (by decide) rfl rfl rfl (s_isWarmth1 h1a h1b) (fun r_13 h1 hq => ?_)
  obtain ⟨rfl, rfl⟩ := hq
  refine mj_if_eq (tgt := 61) (q := 19) dX7_pass_16 (by decide) rfl (fun c_16 => absurd c_16 (by decide)) (fun c_16 => ?_)
  refine mj_iload_n (i := 3) (q := 20) dX7_pass_19 rfl rfl rfl ?_
  refine mj_num1 (v := 0) (q := 21) rfl dX7_pass_20 rfl ?_
  refine mj_num2 (v := 9) (q := 23) (by decide) dX7_pass_21 rfl ?_
  refine mj_kS3i (K := m_X7_is) (q := 26) (mc1 := 0) (ms1 := 0) (mc := 0) (ms := 0) dX7_pass_23 ln_X7_78 ok_X7_is (Nat.le_of_ble_eq_true rfl) (by decide) rfl rfl rfl (s_is1 h2a h2b) (fun r_23 h1 hq => ?_)
  obtain ⟨rfl, rfl⟩ := hq
  refine mj_if_eq (tgt := 61) (q := 29) dX7_pass_26 (by decide) rfl (fun c_26 => absurd c_26 (by decide)) (fun c_26 => ?_)
  refine mj_iload (i := 4) (q := 31) dX7_pass_29 rfl rfl ?_
  refine mj_num1 (v := 0) (q := 32) rfl dX7_pass_31 rfl ?_
  refine mj_num2 (v := 9) (q := 34) (by decide) dX7_pass_32 rfl ?_
  refine mj_kS3i (K := m_X7_is) (q := 37) (mc1 := 0) (ms1 := 0) (mc := 0) (ms := 0) dX7_pass_34 ln_X7_78 ok_X7_is (Nat.le_of_ble_eq_true rfl) (by decide) rfl rfl rfl (s_is1 h3a h3b) (fun r_34 h1 hq => ?_)
  obtain ⟨rfl, rfl⟩ := hq
  refine mj_if_eq (tgt := 61) (q := 40) dX7_pass_37 (by decide) rfl (fun c_37 => absurd c_37 (by decide)) (fun c_37 => ?_)
  refine mj_iload (i := 5) (q := 42) dX7_pass_40 rfl rfl ?_
  refine mj_num1 (v := 0) (q := 43) rfl dX7_pass_42 rfl ?_
  refine mj_num1 (v := 3) (q := 44) rfl dX7_pass_43 rfl ?_
  refine mj_kS3i (K := m_X7_is) (q := 47) (mc1 := 0) (ms1 := 0) (mc := 0) (ms := 0) dX7_pass_44 ln_X7_78 ok_X7_is (Nat.le_of_ble_eq_true rfl) (by decide) rfl rfl rfl (s_is0 hx) (fun r_44 h1 hq => ?_)
  obtain ⟨rfl, rfl⟩ := hq
  refine mj_if_eq (tgt := 61) (q := 50) dX7_pass_47 (by decide) rfl (fun c_47 => ?_) (fun c_47 => absurd (by decide) c_47)
  refine mj_aload_n (i := 0) (q := 62) dX7_pass_61 rfl rfl rfl ?_
  refine mj_num1 (v := 1) (q := 63) rfl dX7_pass_62 rfl ?_
  refine mj_kV1i (K := m_X7_refuse) (q := 66) (mc1 := 0) (ms1 := 0) (mc := 0) (ms := 0) dX7_pass_63 ln_X7_95 ok_X7_refuse (Nat.le_of_ble_eq_true rfl) (by decide) (mj_rc2 (x := 0) (ci := 9) (by first | assumption | simp [mj_up, mj_upl, mj_row, *]) rfl) rfl rfl rfl (s_refuse kX) (fun r_63 h1 hq => ?_)
  obtain ⟨rfl, rfl⟩ := hq
  exact mj_ireturn dX7_pass_66 ⟨_, rfl, rfl⟩ ⟨_, rfl, ⟨rfl, _, _, _, _, rfl, kX, mj_ups, rfl, by (repeat rw [mj_upr (by decide)]), rfl⟩⟩
set_option maxHeartbeats 100000 in
set_option maxRecDepth 100000 in
theorem rx_pass5 {d n : Nat} {v1 v2 v3 v4 v5 v6 : Int32} {K : Nat → mj_K} {f : Nat → Nat → Int32} {g : Nat → Nat → Option Nat} (kX : K 145 = (2, 9, 0)) (h0a : ¬ v1 < 1) (h0b : v1 ≤ 48) (h1a : ¬ v2 < -20) (h1b : v2 ≤ 20) (h2a : ¬ v3 < 0) (h2b : v3 ≤ 9) (h3a : ¬ v4 < 0) (h3b : v4 ≤ 9) (h4a : ¬ v5 < 0) (h4b : v5 ≤ 3) (hx : v6 < 0 ∨ ¬ v6 ≤ 100) : mj_Ri m_X7_pass (d + 3) 0 0 [.ref 145, .int v1, .int v2, .int v3, .int v4, .int v5, .int v6] (n, K, f, g) (fun r h1 => r = 0 ∧ ∃ n1 K1 f1 g1, h1 = (n1, K1, f1, g1) ∧ K1 145 = (2, 9, 0) ∧ f1 145 0 = 1 ∧ K1 149 = K 149 ∧ f1 149 = f 149 ∧ K1 0 = K 0) := by
  refine mj_entry (by refine ⟨by decide +kernel, by decide, rfl, Nat.le_of_ble_eq_true rfl⟩) ?_
  show mj_W _ _ _ _ _ 0 [.ref 145, .int v1, .int v2, .int v3, .int v4, .int v5, .int v6, .null, .null] [] _
  refine mj_aload_n (i := 0) (q := 1) dX7_pass_0 rfl rfl rfl ?_
  refine mj_num1 (v := 0) (q := 2) rfl dX7_pass_1 rfl ?_
  refine mj_putf (x := 0) (q := 5) dX7_pass_2 fl_X7_23 rfl rfl (by first | assumption | simp [mj_up, mj_upl, mj_row, *]) rfl rfl rfl ?_
  refine mj_iload_n (i := 1) (q := 6) dX7_pass_5 rfl rfl rfl ?_
  refine mj_kS1i (K := m_X7_areHours) (q := 9) (mc1 := 0) (ms1 := 0) (mc := 0) (ms := 0) dX7_pass_6 ln_X7_119 ok_X7_areHours (Nat.le_of_ble_eq_true rfl) (by decide) rfl rfl rfl (s_areHours1 h0a h0b) (fun r_6 h1 hq => ?_)
  obtain ⟨rfl, rfl⟩ := hq
  refine mj_if_eq (tgt := 61) (q := 12) dX7_pass_9 (by decide) rfl (fun c_9 => absurd c_9 (by decide)) (fun c_9 => ?_)
  refine mj_iload_n (i := 2) (q := 13) dX7_pass_12 rfl rfl rfl ?_
  refine mj_kS1i (K := m_X7_isWarmth) (q := 16) (mc1 := 0) (ms1 := 0) (mc := 0) (ms := 0) dX7_pass_13 ln_X7_122 ok_X7_isWarmth (Nat.le_of_ble_eq_true rfl) (by decide) rfl rfl rfl (s_isWarmth1 h1a h1b) (fun r_13 h1 hq => ?_)
  obtain ⟨rfl, rfl⟩ := hq
  refine mj_if_eq (tgt := 61) (q := 19) dX7_pass_16 (by decide) rfl (fun c_16 => absurd c_16 (by decide)) (fun c_16 => ?_)
  refine mj_iload_n (i := 3) (q := 20) dX7_pass_19 rfl rfl rfl ?_
  refine mj_num1 (v := 0) (q := 21) rfl dX7_pass_20 rfl ?_
  refine mj_num2 (v := 9) (q := 23) (by decide) dX7_pass_21 rfl ?_
  refine mj_kS3i (K := m_X7_is) (q := 26) (mc1 := 0) (ms1 := 0) (mc := 0) (ms := 0) dX7_pass_23 ln_X7_78 ok_X7_is (Nat.le_of_ble_eq_true rfl) (by decide) rfl rfl rfl (s_is1 h2a h2b) (fun r_23 h1 hq => ?_)
  obtain ⟨rfl, rfl⟩ := hq
  refine mj_if_eq (tgt := 61) (q := 29) dX7_pass_26 (by decide) rfl (fun c_26 => absurd c_26 (by decide)) (fun c_26 => ?_)
  refine mj_iload (i := 4) (q := 31) dX7_pass_29 rfl rfl ?_
  refine mj_num1 (v := 0) (q := 32) rfl dX7_pass_31 rfl ?_
  refine mj_num2 (v := 9) (q := 34) (by decide) dX7_pass_32 rfl ?_
  refine mj_kS3i (K := m_X7_is) (q := 37) (mc1 := 0) (ms1 := 0) (mc := 0) (ms := 0) dX7_pass_34 ln_X7_78 ok_X7_is (Nat.le_of_ble_eq_true rfl) (by decide) rfl rfl rfl (s_is1 h3a h3b) (fun r_34 h1 hq => ?_)
  obtain ⟨rfl, rfl⟩ := hq
  refine mj_if_eq (tgt := 61) (q := 40) dX7_pass_37 (by decide) rfl (fun c_37 => absurd c_37 (by decide)) (fun c_37 => ?_)
  refine mj_iload (i := 5) (q := 42) dX7_pass_40 rfl rfl ?_
  refine mj_num1 (v := 0) (q := 43) rfl dX7_pass_42 rfl ?_
  refine mj_num1 (v := 3) (q := 44) rfl dX7_pass_43 rfl ?_
  refine mj_kS3i (K := m_X7_is) (q := 47) (mc1 := 0) (ms1 := 0) (mc := 0) (ms := 0) dX7_pass_44 ln_X7_78 ok_X7_is (Nat.le_of_ble_eq_true rfl) (by decide) rfl rfl rfl (s_is1 h4a h4b) (fun r_44 h1 hq => ?_)
  obtain ⟨rfl, rfl⟩ := hq
  refine mj_if_eq (tgt := 61) (q := 50) dX7_pass_47 (by decide) rfl (fun c_47 => absurd c_47 (by decide)) (fun c_47 => ?_)
  refine mj_iload (i := 6) (q := 52) dX7_pass_50 rfl rfl ?_
  refine mj_num1 (v := 0) (q := 53) rfl dX7_pass_52 rfl ?_
  refine mj_num2 (v := 100) (q := 55) (by decide) dX7_pass_53 rfl ?_
  refine mj_kS3i (K := m_X7_is) (q := 58) (mc1 := 0) (ms1 := 0) (mc := 0) (ms := 0) dX7_pass_55 ln_X7_78 ok_X7_is (Nat.le_of_ble_eq_true rfl) (by decide) rfl rfl rfl (s_is0 hx) (fun r_55 h1 hq => ?_)
  obtain ⟨rfl, rfl⟩ := hq
  refine mj_if_ne (tgt := 67) (q := 61) dX7_pass_58 (by decide) rfl (fun c_58 => absurd (by decide) c_58) (fun c_58 => ?_)
  refine mj_aload_n (i := 0) (q := 62) dX7_pass_61 rfl rfl rfl ?_
  refine mj_num1 (v := 1) (q := 63) rfl dX7_pass_62 rfl ?_
  refine mj_kV1i (K := m_X7_refuse) (q := 66) (mc1 := 0) (ms1 := 0) (mc := 0) (ms := 0) dX7_pass_63 ln_X7_95 ok_X7_refuse (Nat.le_of_ble_eq_true rfl) (by decide) (mj_rc2 (x := 0) (ci := 9) (by first | assumption | simp [mj_up, mj_upl, mj_row, *]) rfl) rfl rfl rfl (s_refuse kX) (fun r_63 h1 hq => ?_)
  obtain ⟨rfl, rfl⟩ := hq
  exact mj_ireturn dX7_pass_66 ⟨_, rfl, rfl⟩ ⟨_, rfl, ⟨rfl, _, _, _, _, rfl, kX, mj_ups, rfl, by (repeat rw [mj_upr (by decide)]), rfl⟩⟩
