/-! LISTS: ArrayList and its iterator, empty lists and a first add -/
set_option maxHeartbeats 400000 in
set_option maxRecDepth 100000 in
theorem s_abc {d a : Nat} {h : mj_H} : mj_Rv m_Jxa1e45_init_da8c8 (d + 1) 0 0 [.ref a] h (fun h1 => h1 = h) := by
  refine mj_entry (by refine ⟨by decide +kernel, by decide, rfl, Nat.le_of_ble_eq_true rfl⟩) ?_
  show mj_W _ _ _ _ _ 0 [.ref a] [] _
  refine mj_aload_n (i := 0) (q := 1) dJxa1e45_init_da8c8_0 rfl rfl rfl ?_
  refine mj_objInit (q := 4) dJxa1e45_init_da8c8_1 ln_Jxa1e45_1 (Nat.le_of_ble_eq_true rfl) rfl ?_
  exact mj_return dJxa1e45_init_da8c8_4 rfl ⟨rfl, rfl⟩
set_option maxHeartbeats 400000 in
set_option maxRecDepth 100000 in
theorem s_abl {d n a : Nat} {K : Nat → mj_K} {f : Nat → Nat → Int32} {g : Nat → Nat → Option Nat} (ka : K a = (2, 1, 0)) : mj_Rv m_Jxc12de_init_da8c8 (d + 2) 0 0 [.ref a] (n, K, f, g) (fun h1 => h1 = (n, K, mj_up f a 0 0, g)) := by
  refine mj_entry (by refine ⟨by decide +kernel, by decide, rfl, Nat.le_of_ble_eq_true rfl⟩) ?_
  show mj_W _ _ _ _ _ 0 [.ref a] [] _
  refine mj_aload_n (i := 0) (q := 1) dJxc12de_init_da8c8_0 rfl rfl rfl ?_
  refine mj_kI0v (K := m_Jxa1e45_init_da8c8) (q := 4) (mc1 := 0) (ms1 := 0) (mc := 0) (ms := 0) dJxc12de_init_da8c8_1 ln_Jxc12de_1 ok_Jxa1e45_init_da8c8 (Nat.le_of_ble_eq_true rfl) (by decide) rfl rfl rfl (s_abc) (fun h1 hq => ?_)
  subst hq
  refine mj_aload_n (i := 0) (q := 5) dJxc12de_init_da8c8_4 rfl rfl rfl ?_
  refine mj_num1 (v := 0) (q := 6) rfl dJxc12de_init_da8c8_5 rfl ?_
  refine mj_putf (x := 0) (q := 9) dJxc12de_init_da8c8_6 fs_AbL7 rfl rfl ka rfl rfl rfl ?_
  exact mj_return dJxc12de_init_da8c8_9 rfl ⟨rfl, rfl⟩
set_option maxHeartbeats 400000 in
set_option maxRecDepth 100000 in
theorem s_list {d n a : Nat} {K : Nat → mj_K} {f : Nat → Nat → Int32} {g : Nat → Nat → Option Nat} (ka : K a = (2, 1, 0)) (hn : 1 < n) : mj_Rv m_Jx4a65c_init_da8c8 (d + 3) 0 0 [.ref a] (n, K, f, g) (fun h1 => h1 = (n, K, mj_up f a 0 0, mj_up g a 1 (some 1))) := by
  refine mj_entry (by refine ⟨by decide +kernel, by decide, rfl, Nat.le_of_ble_eq_true rfl⟩) ?_
  show mj_W _ _ _ _ _ 0 [.ref a] [] _
  refine mj_aload_n (i := 0) (q := 1) dJx4a65c_init_da8c8_0 rfl rfl rfl ?_
  refine mj_kI0v (K := m_Jxc12de_init_da8c8) (q := 4) (mc1 := 0) (ms1 := 0) (mc := 0) (ms := 0) dJx4a65c_init_da8c8_1 ln_Jx4a65c_1 ok_Jxc12de_init_da8c8 (Nat.le_of_ble_eq_true rfl) (by decide) rfl rfl rfl (s_abl ka) (fun h1 hq => ?_)
  subst hq
  refine mj_aload_n (i := 0) (q := 5) dJx4a65c_init_da8c8_4 rfl rfl rfl ?_
  refine mj_gete (q := 8) dJx4a65c_init_da8c8_5 fe_AL39 hn rfl ?_
  refine mj_putr2 (x := 0) (q := 11) dJx4a65c_init_da8c8_8 fl_Jx4a65c_9 rfl rfl ka rfl (fun _ => rfl) (fun _ => rfl) ?_
  exact mj_return dJx4a65c_init_da8c8_11 rfl ⟨rfl, rfl⟩
set_option maxHeartbeats 400000 in
set_option maxRecDepth 100000 in
theorem s_size {d n a : Nat} {K : Nat → mj_K} {f : Nat → Nat → Int32} {g : Nat → Nat → Option Nat} (ka : K a = (2, 1, 0)) : mj_Ri m_Jx4a65c_size_8abf5 (d + 1) 0 0 [.ref a] (n, K, f, g) (fun r h1 => r = f a 2 ∧ h1 = (n, K, f, g)) := by
  refine mj_entry (by refine ⟨by decide +kernel, by decide, rfl, Nat.le_of_ble_eq_true rfl⟩) ?_
  show mj_W _ _ _ _ _ 0 [.ref a] [] _
  refine mj_aload_n (i := 0) (q := 1) dJx4a65c_size_8abf5_0 rfl rfl rfl ?_
  refine mj_getf (x := 0) (q := 4) dJx4a65c_size_8abf5_1 fl_Jx4a65c_48 rfl rfl (by first | assumption | simp [mj_up, mj_upl, mj_row, *]) ?_
  exact mj_ireturn dJx4a65c_size_8abf5_4 ⟨_, rfl, rfl⟩ ⟨_, rfl, ⟨rfl, rfl⟩⟩
set_option maxHeartbeats 400000 in
set_option maxRecDepth 100000 in
theorem s_itrInit {d n t a : Nat} {K : Nat → mj_K} {f : Nat → Nat → Int32} {g : Nat → Nat → Option Nat} (kt : K t = (2, 0, 0)) (ka : K a = (2, 1, 0)) : mj_Rv m_Jx35411_init_45d68 (d + 1) 0 0 [.ref t, .ref a] (n, K, f, g) (fun h1 => ∃ f1 g1, h1 = (n, K, f1, g1) ∧ (∀ z, z ≠ t → f1 z = f z ∧ g1 z = g z) ∧ f1 t 0 = f t 0 ∧ g1 t 3 = some a) := by
  refine mj_entry (by refine ⟨by decide +kernel, by decide, rfl, Nat.le_of_ble_eq_true rfl⟩) ?_
  show mj_W _ _ _ _ _ 0 [.ref t, .ref a] [] _
  refine mj_aload_n (i := 0) (q := 1) dJx35411_init_45d68_0 rfl rfl rfl ?_
  refine mj_aload_n (i := 1) (q := 2) dJx35411_init_45d68_1 rfl rfl rfl ?_
  refine mj_putr (x := 0) (q := 5) dJx35411_init_45d68_2 fl_Jx35411_1 rfl rfl (by first | assumption | exact mj_ups) rfl rfl rfl (fun _ => rfl) (fun _ => rfl) ?_
  refine mj_aload_n (i := 0) (q := 6) dJx35411_init_45d68_5 rfl rfl rfl ?_
  refine mj_objInit (q := 9) dJx35411_init_45d68_6 ln_Jx35411_7 (Nat.le_of_ble_eq_true rfl) rfl ?_
  refine mj_aload_n (i := 0) (q := 10) dJx35411_init_45d68_9 rfl rfl rfl ?_
  refine mj_num1 (v := (-1)) (q := 11) rfl dJx35411_init_45d68_10 rfl ?_
  refine mj_putf (x := 0) (q := 14) dJx35411_init_45d68_11 fl_Jx35411_13 rfl rfl (by first | assumption | exact mj_ups) rfl rfl rfl ?_
  refine mj_aload_n (i := 0) (q := 15) dJx35411_init_45d68_14 rfl rfl rfl ?_
  refine mj_aload_n (i := 0) (q := 16) dJx35411_init_45d68_15 rfl rfl rfl ?_
  refine mj_getr (x := 0) (q := 19) dJx35411_init_45d68_16 fl_Jx35411_1 rfl rfl (by first | assumption | exact mj_ups) (by first | assumption | exact mj_ups) ?_
  refine mj_getfS (x := 0) (q := 22) dJx35411_init_45d68_19 fs_Itr17 rfl rfl ka ?_
  refine mj_putf (x := 0) (q := 25) dJx35411_init_45d68_22 fl_Jx35411_22 rfl rfl (by first | assumption | exact mj_ups) rfl rfl rfl ?_
  exact mj_return dJx35411_init_45d68_25 rfl ⟨rfl, ⟨_, _, rfl, fun z hz => ⟨by rw [mj_upr hz, mj_upr hz], by rw [mj_upr hz]⟩, by rw [mj_upn (Or.inr (by decide)), mj_upn (Or.inr (by decide))], mj_ups⟩⟩
set_option maxHeartbeats 400000 in
set_option maxRecDepth 100000 in
theorem s_iter {d n a : Nat} {K : Nat → mj_K} {f : Nat → Nat → Int32} {g : Nat → Nat → Option Nat} (ka : K a = (2, 1, 0)) (ha : a < n) : mj_Rr m_Jx4a65c_iterator_32c93 (d + 2) 1 4 [.ref a] (n, K, f, g) (fun r h1 => r = n ∧ ∃ K1 f1 g1, h1 = (n + 1, K1, f1, g1) ∧ mj_old n K K1 f f1 g g1 ∧ K1 n = (2, 0, 0) ∧ f1 n 0 = 0 ∧ g1 n 3 = some a) := by
  refine mj_entry (by refine ⟨by decide +kernel, by decide, rfl, Nat.le_of_ble_eq_true rfl⟩) ?_
  show mj_W _ _ _ _ _ 0 [.ref a] [] _
  refine mj_newB (ci := 0) (mc := 0) (ms := 0) (q := 3) dJx4a65c_iterator_32c93_0 (by decide) cl_Jx4a65c_267 in_Jx35411 rfl rfl rfl ?_
  refine mj_dup (q := 4) rfl dJx4a65c_iterator_32c93_3 rfl ?_
  refine mj_aload_n (i := 0) (q := 5) dJx4a65c_iterator_32c93_4 rfl rfl rfl ?_
  refine mj_kI1v (K := m_Jx35411_init_45d68) (q := 8) (mc1 := 0) (ms1 := 0) (mc := 0) (ms := 0) dJx4a65c_iterator_32c93_5 ln_Jx4a65c_269 ok_Jx35411_init_45d68 (Nat.le_of_ble_eq_true rfl) (by decide) rfl rfl rfl (s_itrInit (t := n) (a := a) mj_rows (by rw [mj_rown (by omega)]; exact ka)) (fun h1 hq => ?_)
  obtain ⟨f9, g9, rfl, q1, q2, q3⟩ := hq
  exact mj_areturn dJx4a65c_iterator_32c93_8 ⟨_, rfl, Or.inl ⟨_, rfl⟩⟩ ⟨_, rfl, ⟨rfl, _, _, _, rfl, fun z hz => ⟨mj_rown (by omega), (q1 z (by omega)).1.trans (mj_rown (by omega)), (q1 z (by omega)).2.trans (mj_rown (by omega))⟩, mj_rows, by rw [q2, mj_rows], q3⟩⟩
set_option maxHeartbeats 400000 in
set_option maxRecDepth 100000 in
theorem s_hasNext {d n t a : Nat} {K : Nat → mj_K} {f : Nat → Nat → Int32} {g : Nat → Nat → Option Nat} (kt : K t = (2, 0, 0)) (ka : K a = (2, 1, 0)) (f0 : f t 0 = 0) (g3 : g t 3 = some a) (f2 : f a 2 = 0) : mj_Ri m_Jx35411_hasNext_aae02 (d + 1) 0 0 [.ref t] (n, K, f, g) (fun r h1 => r = 0 ∧ h1 = (n, K, f, g)) := by
  refine mj_entry (by refine ⟨by decide +kernel, by decide, rfl, Nat.le_of_ble_eq_true rfl⟩) ?_
  show mj_W _ _ _ _ _ 0 [.ref t] [] _
  refine mj_aload_n (i := 0) (q := 1) dJx35411_hasNext_aae02_0 rfl rfl rfl ?_
  refine mj_getfv (x := 0) (v := 0) (q := 4) dJx35411_hasNext_aae02_1 fl_Jx35411_25 rfl rfl (by first | assumption | simp [mj_up, mj_upl, mj_row, *]) f0 ?_
  refine mj_aload_n (i := 0) (q := 5) dJx35411_hasNext_aae02_4 rfl rfl rfl ?_
  refine mj_getr (x := 0) (q := 8) dJx35411_hasNext_aae02_5 fl_Jx35411_1 rfl rfl (by first | assumption | simp [mj_up, mj_upl, mj_row, *]) (by first | assumption | simp [mj_up, mj_upl, mj_row, *]) ?_
  refine mj_getfvN (x := 0) (v := 0) (q := 11) dJx35411_hasNext_aae02_8 fn_Jx35411_28 rfl rfl (by first | assumption | simp [mj_up, mj_upl, mj_row, *]) f2 ?_
  refine mj_icmp_eq (tgt := 18) (q := 14) dJx35411_hasNext_aae02_11 (by decide) rfl (fun c_11 => ?_) (fun c_11 => absurd rfl c_11)
  refine mj_num1 (v := 0) (q := 19) rfl dJx35411_hasNext_aae02_18 rfl ?_
  exact mj_ireturn dJx35411_hasNext_aae02_19 ⟨_, rfl, rfl⟩ ⟨_, rfl, ⟨rfl, rfl⟩⟩
set_option maxHeartbeats 400000 in
set_option maxRecDepth 100000 in
theorem mj_hasNext {M : mj_M} {d mc ms pc q idx count n t a : Nat} {Q : mj_Q} {lv st : List Value} {K : Nat → mj_K} {f : Nat → Nat → Int32} {g : Nat → Nat → Option Nat} (hd : decode M.2.1 pc = .ok (.invokeinterface idx count, 5)) (hln : Cond.methodLink M.2.2.2.2.1 idx ⟨"java/util/Iterator", "hasNext", "()Z"⟩ ∈ mj_TW) (hcat : (st.map fun v => v.category).sum ≤ 8) (hq : pc + 5 = q)
    (kt : K t = (2, 0, 0)) (ka : K a = (2, 1, 0)) (f0 : f t 0 = 0) (g3 : g t 3 = some a) (f2 : f a 2 = 0) (k : mj_W M (d + 2) mc ms Q q lv (.int 0 :: st) (n, K, f, g)) : mj_W M (d + 2) mc ms Q pc lv (.ref t :: st) (n, K, f, g) := by
  have e := mj_callF0 (M := M) (d := d + 1) (mc := mc) (ms := ms) (mc1 := 0) (ms1 := 0) (Kc := m_Jx35411_hasNext_aae02) (xm := ⟨"java/util/Iterator", "hasNext", "()Z"⟩) (ci := 0) (x := 0) (a := t) (h := (n, K, f, g)) (st := st) (lv := lv) (Q := Q) (q := q) hd hln (mj_in 1191 (by decide +kernel) rfl) (mj_in 1193 (by decide +kernel) rfl) (mj_in 24 (by decide +kernel) rfl) (mj_in 1195 rfl rfl)
    (fun _ z => mj_XW.face z) (by decide) hcat (by decide) (by decide) kt rfl (s_hasNext kt ka f0 g3 f2) hq (fun v h1 hv => by obtain ⟨r, rfl, rfl, rfl⟩ := hv; exact k) (fun _ _ z => z.elim)
  rw [Nat.zero_add, Nat.zero_add] at e
  exact e
set_option maxHeartbeats 400000 in
set_option maxRecDepth 100000 in
theorem s_grow1 {d n a : Nat} {K : Nat → mj_K} {f : Nat → Nat → Int32} {g : Nat → Nat → Option Nat} (ka : K a = (2, 1, 0)) (ga : g a 1 = some 1) (hn : a < n) (h1 : 1 < a) : mj_Rr m_Jx4a65c_grow_92f84 (d + 2) 1 10 [.ref a, .int 1] (n, K, f, g) (fun r h1 => r = n ∧ ∃ K1 f1 g1, h1 = (n + 1, K1, f1, g1) ∧ (∀ z, z < n → K1 z = K z ∧ f1 z = f z ∧ (z ≠ a → g1 z = g z)) ∧ K1 n = (6, 10, 0)) := by
  refine mj_entry (by refine ⟨by decide +kernel, by decide, rfl, Nat.le_of_ble_eq_true rfl⟩) ?_
  show mj_W _ _ _ _ _ 0 [.ref a, .int 1, .null, .null] [] _
  refine mj_aload_n (i := 0) (q := 1) dJx4a65c_grow_92f84_0 rfl rfl rfl ?_
  refine mj_getr (x := 0) (q := 4) dJx4a65c_grow_92f84_1 fl_Jx4a65c_9 rfl rfl (by first | assumption | simp [mj_up, mj_upl, mj_row, *]) (by first | assumption | simp [mj_up, mj_upl, mj_row, *]) ?_
  refine mj_elen (q := 5) dJx4a65c_grow_92f84_4 rfl ?_
  refine mj_istore_n (i := 2) (q := 6) dJx4a65c_grow_92f84_5 rfl rfl (by decide) rfl ?_
  dsimp only [List.set]
  refine mj_iload_n (i := 2) (q := 7) dJx4a65c_grow_92f84_6 rfl rfl rfl ?_
  refine mj_if_gt (tgt := 20) (q := 10) dJx4a65c_grow_92f84_7 (by decide) rfl (fun c_7 => absurd c_7 (by decide)) (fun c_7 => ?_)
  refine mj_aload_n (i := 0) (q := 11) dJx4a65c_grow_92f84_10 rfl rfl rfl ?_
  refine mj_getr (x := 0) (q := 14) dJx4a65c_grow_92f84_11 fl_Jx4a65c_9 rfl rfl (by first | assumption | simp [mj_up, mj_upl, mj_row, *]) (by first | assumption | simp [mj_up, mj_upl, mj_row, *]) ?_
  refine mj_gete (q := 17) dJx4a65c_grow_92f84_14 fe_AL39 (by omega) rfl ?_
  refine mj_acmpT (q := 45) dJx4a65c_grow_92f84_17 (by decide) ?_
  refine mj_aload_n (i := 0) (q := 46) dJx4a65c_grow_92f84_45 rfl rfl rfl ?_
  refine mj_num2 (v := 10) (q := 48) (by decide) dJx4a65c_grow_92f84_46 rfl ?_
  refine mj_iload_n (i := 1) (q := 49) dJx4a65c_grow_92f84_48 rfl rfl rfl ?_
  refine mj_mmax (q := 52) dJx4a65c_grow_92f84_49 ln_Jx4a65c_79 (Nat.le_of_ble_eq_true rfl) rfl ?_
  refine mj_top (y := 10) (by decide) ?_
  refine mj_budget (mc1 := 1 + 0) (ms1 := 10 + 0) (by omega) (by omega) ?_
  refine mj_newO (x := 10) (L := 10) (mc := 0) (ms := 0) (q := 55) dJx4a65c_grow_92f84_52 cl_AL7 (by decide) (by decide) (by decide) rfl ?_
  refine mj_dupx1 (q := 56) rfl rfl dJx4a65c_grow_92f84_55 rfl ?_
  refine mj_putr2 (x := 0) (q := 59) dJx4a65c_grow_92f84_56 fl_Jx4a65c_9 rfl rfl (by rw [mj_rown (by omega)]; exact ka) rfl (fun _ => rfl) (fun _ => rfl) ?_
  exact mj_areturn dJx4a65c_grow_92f84_59 ⟨_, rfl, Or.inr ⟨_, rfl⟩⟩ ⟨_, rfl, ⟨rfl, _, _, _, rfl, fun z hz => ⟨mj_rown (by omega), mj_rown (by omega), fun hza => (mj_upr hza).trans (mj_rown (by omega))⟩, mj_rows⟩⟩
set_option maxHeartbeats 400000 in
set_option maxRecDepth 100000 in
theorem s_grow0 {d n a : Nat} {K : Nat → mj_K} {f : Nat → Nat → Int32} {g : Nat → Nat → Option Nat} (ka : K a = (2, 1, 0)) (ga : g a 1 = some 1) (hn : a < n) (h1 : 1 < a) (f2 : f a 2 = 0) : mj_Rr m_Jx4a65c_grow_d5877 (d + 3) 1 10 [.ref a] (n, K, f, g) (fun r h1 => r = n ∧ ∃ K1 f1 g1, h1 = (n + 1, K1, f1, g1) ∧ (∀ z, z < n → K1 z = K z ∧ f1 z = f z ∧ (z ≠ a → g1 z = g z)) ∧ K1 n = (6, 10, 0)) := by
  refine mj_entry (by refine ⟨by decide +kernel, by decide, rfl, Nat.le_of_ble_eq_true rfl⟩) ?_
  show mj_W _ _ _ _ _ 0 [.ref a] [] _
  refine mj_aload_n (i := 0) (q := 1) dJx4a65c_grow_d5877_0 rfl rfl rfl ?_
  refine mj_aload_n (i := 0) (q := 2) dJx4a65c_grow_d5877_1 rfl rfl rfl ?_
  refine mj_getfv (x := 0) (v := 0) (q := 5) dJx4a65c_grow_d5877_2 fl_Jx4a65c_48 rfl rfl (by first | assumption | simp [mj_up, mj_upl, mj_row, *]) f2 ?_
  refine mj_num1 (v := 1) (q := 6) rfl dJx4a65c_grow_d5877_5 rfl ?_
  refine mj_iadd (q := 7) dJx4a65c_grow_d5877_6 rfl ?_
  refine mj_top (y := 1) (by decide) ?_
  refine mj_kV1r (K := m_Jx4a65c_grow_92f84) (q := 10) (mc1 := 1) (ms1 := 10) (mc := 0) (ms := 0) dJx4a65c_grow_d5877_7 ln_Jx4a65c_69 ok_Jx4a65c_grow_92f84 (Nat.le_of_ble_eq_true rfl) (by decide) (mj_rc2 (x := 0) (ci := 1) (by first | assumption | simp [mj_up, mj_upl, mj_row, *]) rfl) rfl rfl rfl (s_grow1 ka ga hn h1) (fun r_7 h1 hq => ?_)
  obtain ⟨rfl, K1, f1, g1, rfl, q1, q2⟩ := hq
  exact mj_areturn dJx4a65c_grow_d5877_10 ⟨_, rfl, Or.inr ⟨_, rfl⟩⟩ ⟨_, rfl, ⟨rfl, _, _, _, rfl, q1, q2⟩⟩
set_option maxHeartbeats 400000 in
set_option maxRecDepth 100000 in
theorem s_add3 {d n a b Lb : Nat} {K : Nat → mj_K} {f : Nat → Nat → Int32} {g : Nat → Nat → Option Nat} (ka : K a = (2, 1, 0)) (ga : g a 1 = some 1) (hn : a < n) (h1 : 1 < a) (f2 : f a 2 = 0) (kb : K b = (0, Lb, 0)) (hb : b < n) : mj_Rv m_Jx4a65c_add_72be8 (d + 4) 1 10 [.ref a, .ref b, .ref 1, .int 0] (n, K, f, g) (fun h1 => ∃ n1 K1 f1 g1, h1 = (n1, K1, f1, g1) ∧ (∀ z, z < n → K1 z = K z ∧ (z ≠ a → f1 z = f z ∧ g1 z = g z)) ∧ f1 a 2 = 1) := by
  refine mj_entry (by refine ⟨by decide +kernel, by decide, rfl, Nat.le_of_ble_eq_true rfl⟩) ?_
  show mj_W _ _ _ _ _ 0 [.ref a, .ref b, .ref 1, .int 0] [] _
  refine mj_iload_n (i := 3) (q := 1) dJx4a65c_add_72be8_0 rfl rfl rfl ?_
  refine mj_aload_n (i := 2) (q := 2) dJx4a65c_add_72be8_1 rfl rfl rfl ?_
  refine mj_elen (q := 3) dJx4a65c_add_72be8_2 rfl ?_
  refine mj_icmp_ne (tgt := 11) (q := 6) dJx4a65c_add_72be8_3 (by decide) rfl (fun c_3 => absurd rfl c_3) (fun c_3 => ?_)
  refine mj_aload_n (i := 0) (q := 7) dJx4a65c_add_72be8_6 rfl rfl rfl ?_
  refine mj_kV0r (K := m_Jx4a65c_grow_d5877) (q := 10) (mc1 := 1) (ms1 := 10) (mc := 0) (ms := 0) dJx4a65c_add_72be8_7 ln_Jx4a65c_129 ok_Jx4a65c_grow_d5877 (Nat.le_of_ble_eq_true rfl) (by decide) (mj_rc2 (x := 0) (ci := 1) (by first | assumption | exact (q1 a (by omega)).1.trans ka) rfl) rfl rfl rfl (s_grow0 ka ga hn h1 f2) (fun r_7 h1 hq => ?_)
  obtain ⟨rfl, K1, f1, g1, rfl, q1, q2⟩ := hq
  refine mj_astore_n (i := 2) (q := 11) dJx4a65c_add_72be8_10 rfl rfl (by decide) rfl ?_
  dsimp only [List.set]
  refine mj_aload_n (i := 2) (q := 12) dJx4a65c_add_72be8_11 rfl rfl rfl ?_
  refine mj_iload_n (i := 3) (q := 13) dJx4a65c_add_72be8_12 rfl rfl rfl ?_
  refine mj_aload_n (i := 1) (q := 14) dJx4a65c_add_72be8_13 rfl rfl rfl ?_
  refine mj_aast6 (L := 10) (x := 0) (q := 15) dJx4a65c_add_72be8_14 rfl q2 (by unfold vp_in; decide) ((q1 b (by omega)).1.trans kb) ?_
  refine mj_aload_n (i := 0) (q := 16) dJx4a65c_add_72be8_15 rfl rfl rfl ?_
  refine mj_iload_n (i := 3) (q := 17) dJx4a65c_add_72be8_16 rfl rfl rfl ?_
  refine mj_num1 (v := 1) (q := 18) rfl dJx4a65c_add_72be8_17 rfl ?_
  refine mj_iadd (q := 19) dJx4a65c_add_72be8_18 rfl ?_
  refine mj_putf (x := 0) (q := 22) dJx4a65c_add_72be8_19 fl_Jx4a65c_48 rfl rfl (by first | assumption | exact (q1 a (by omega)).1.trans ka) rfl rfl rfl ?_
  exact mj_return dJx4a65c_add_72be8_22 rfl ⟨rfl, ⟨_, _, _, _, rfl, fun z hz => ⟨(q1 z hz).1, fun hza => ⟨(mj_upr hza).trans (q1 z hz).2.1, (mj_upr (by omega)).trans ((q1 z hz).2.2 hza)⟩⟩, by rw [mj_ups]; decide⟩⟩
set_option maxHeartbeats 400000 in
set_option maxRecDepth 100000 in
theorem s_add {d n a b Lb : Nat} {K : Nat → mj_K} {f : Nat → Nat → Int32} {g : Nat → Nat → Option Nat} (ka : K a = (2, 1, 0)) (ga : g a 1 = some 1) (hn : a < n) (h1 : 1 < a) (f2 : f a 2 = 0) (kb : K b = (0, Lb, 0)) (hb : b < n) : mj_Ri m_Jx4a65c_add_9ea2d (d + 5) 1 10 [.ref a, .ref b] (n, K, f, g) (fun r h1 => ∃ n1 K1 f1 g1, h1 = (n1, K1, f1, g1) ∧ (∀ z, z < n → K1 z = K z ∧ (z ≠ a → f1 z = f z ∧ g1 z = g z)) ∧ f1 a 2 = 1) := by
  refine mj_entry (by refine ⟨by decide +kernel, by decide, rfl, Nat.le_of_ble_eq_true rfl⟩) ?_
  show mj_W _ _ _ _ _ 0 [.ref a, .ref b] [] _
  refine mj_aload_n (i := 0) (q := 1) dJx4a65c_add_9ea2d_0 rfl rfl rfl ?_
  refine mj_dup (q := 2) rfl dJx4a65c_add_9ea2d_1 rfl ?_
  refine mj_getfS (x := 0) (q := 5) dJx4a65c_add_9ea2d_2 fs_AL63 rfl rfl ka ?_
  refine mj_num1 (v := 1) (q := 6) rfl dJx4a65c_add_9ea2d_5 rfl ?_
  refine mj_iadd (q := 7) dJx4a65c_add_9ea2d_6 rfl ?_
  refine mj_putfS (x := 0) (q := 10) dJx4a65c_add_9ea2d_7 fs_AL63 rfl rfl ka rfl rfl rfl ?_
  refine mj_aload_n (i := 0) (q := 11) dJx4a65c_add_9ea2d_10 rfl rfl rfl ?_
  refine mj_aload_n (i := 1) (q := 12) dJx4a65c_add_9ea2d_11 rfl rfl rfl ?_
  refine mj_aload_n (i := 0) (q := 13) dJx4a65c_add_9ea2d_12 rfl rfl rfl ?_
  refine mj_getr (x := 0) (q := 16) dJx4a65c_add_9ea2d_13 fl_Jx4a65c_9 rfl rfl (by first | assumption | simp [mj_up, mj_upl, mj_row, *]) (by first | assumption | simp [mj_up, mj_upl, mj_row, *]) ?_
  refine mj_aload_n (i := 0) (q := 17) dJx4a65c_add_9ea2d_16 rfl rfl rfl ?_
  refine mj_getfv (x := 0) (v := 0) (q := 20) dJx4a65c_add_9ea2d_17 fl_Jx4a65c_48 rfl rfl (by first | assumption | simp [mj_up, mj_upl, mj_row, *]) (by rw [mj_upn (Or.inr (by decide))]; exact f2) ?_
  refine mj_kV3v (K := m_Jx4a65c_add_72be8) (q := 23) (mc1 := 1) (ms1 := 10) (mc := 0) (ms := 0) dJx4a65c_add_9ea2d_20 ln_Jx4a65c_131 ok_Jx4a65c_add_72be8 (Nat.le_of_ble_eq_true rfl) (by decide) (mj_rc2 (x := 0) (ci := 1) (by first | assumption | simp [mj_up, mj_upl, mj_row, *]) rfl) rfl rfl rfl (s_add3 (f := mj_up f a 0 (f a 0 + 1)) ka ga hn h1 (by rw [mj_upn (Or.inr (by decide))]; exact f2) kb hb) (fun h1 hq => ?_)
  obtain ⟨n1, K1, f1, g1, rfl, q1, q2⟩ := hq
  refine mj_num1 (v := 1) (q := 24) rfl dJx4a65c_add_9ea2d_23 rfl ?_
  exact mj_ireturn dJx4a65c_add_9ea2d_24 ⟨_, rfl, rfl⟩ ⟨_, rfl, ⟨_, _, _, _, rfl, fun z hz => ⟨(q1 z hz).1, fun hza => ⟨((q1 z hz).2 hza).1.trans (mj_upr hza), ((q1 z hz).2 hza).2⟩⟩, q2⟩⟩
