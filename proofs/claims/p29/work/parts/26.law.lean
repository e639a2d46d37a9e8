/-! THE LAW'S HELPERS -/
def vBelow (v n : Int32) : Int32 := (v &&& 2147483647) % n
def vShr (x k : Int32) : Int32 := x >>> (k &&& 31)
def vCell (F : Nat → Int32) (L k : Nat) : Int32 := if k < L then F k else 790386105 * (nI k + 3)
def vWby (x : Int32) : Nat → Int32
  | 0 => vBelow (vShr x 3) 31 - 18
  | 1 => if vBelow (vShr x 6) 2 = 0 then 0 else vBelow (vShr x 5) 10
  | 2 => if 0 < vBelow (vShr x 7) 3 then vBelow (vShr x 4) 5 else vBelow (vShr x 4) 10
  | 3 => vBelow (vShr x 2) 4
  | _ => vBelow (vShr x 5) 101
theorem vBelow_rng (v : Int32) {n : Nat} (h0 : 0 < n) (h1 : n < 2147483648) : ∃ k, k < n ∧ vBelow v (nI n) = nI k := by
  have hm : 0 ≤ (v &&& 2147483647).toInt := by
    show 0 ≤ (v &&& 2147483647).toBitVec.toInt
    have e : (v &&& 2147483647).toBitVec.msb = false := by
      show (v.toBitVec &&& (2147483647 : Int32).toBitVec).msb = false
      rw [BitVec.msb_and]
      have : (2147483647 : Int32).toBitVec.msb = false := by decide
      rw [this, Bool.and_false]
    rw [BitVec.toInt_eq_msb_cond, e]
    simp
  have hn : (nI n).toInt = n := nI_toInt (by omega)
  have hr : (vBelow v (nI n)).toInt = (v &&& 2147483647).toInt.tmod n := by
    unfold vBelow
    rw [Int32.toInt_mod, hn]
  have h2 : 0 ≤ (v &&& 2147483647).toInt.tmod n := Int.tmod_nonneg _ hm
  have h3 : (v &&& 2147483647).toInt.tmod n < n := Int.tmod_lt_of_pos _ (by omega)
  refine ⟨((v &&& 2147483647).toInt.tmod n).toNat, by omega, ?_⟩
  apply Int32.toInt_inj.mp
  rw [hr, nI_toInt (by omega)]
  omega

set_option maxHeartbeats 4000000 in
set_option maxRecDepth 100000 in
theorem s_below {d : Nat} {v m : Int32} {h : mj_H} (hne : m ≠ 0) : mj_Ci m_L_below d [.int v, .int m] h (fun r h1 => h1 = h ∧ r = vBelow v m) := by
  refine mj_entry (by refine ⟨by decide +kernel, by decide, rfl, Nat.le_of_ble_eq_true rfl⟩) ?_
  show mj_W _ _ _ _ _ 0 [.int v, .int m] [] _
  refine mj_iload_n (i := 0) (q := 1) dL_below_0 rfl rfl rfl ?_
  refine mj_ldc (q := 3) dL_below_1 ct_L_7 rfl ?_
  refine mj_iand (q := 4) dL_below_3 rfl ?_
  refine mj_iload_n (i := 1) (q := 5) dL_below_4 rfl rfl rfl ?_
  refine mj_irem (q := 6) hne dL_below_5 rfl ?_
  exact mj_ireturn dL_below_6 ⟨_, rfl, rfl⟩ ⟨_, rfl, ⟨rfl, rfl⟩⟩
set_option maxHeartbeats 4000000 in
set_option maxRecDepth 100000 in
theorem s_cell {d a L k : Nat} {n : Nat} {K : Nat → mj_K} {f : Nat → Nat → Int32} {g : Nat → Nat → Option Nat} (hK : K a = (0, L, 0)) (hL : L ≤ 1000) (hk : k ≤ 1000) : mj_Ci m_L_cell d [.ref a, .int (nI k)] (n, K, f, g) (fun r h1 => h1 = (n, K, f, g) ∧ r = vCell (f a) L k) := by
  by_cases h : k < L
  · have e : vCell (f a) L k = f a k := if_pos h
    refine mj_entry (by refine ⟨by decide +kernel, by decide, rfl, Nat.le_of_ble_eq_true rfl⟩) ?_
    show mj_W _ _ _ _ _ 0 [.ref a, .int (nI k)] [] _
    refine mj_iload_n (i := 1) (q := 1) dL_cell_0 rfl rfl rfl ?_
    refine mj_aload_n (i := 0) (q := 2) dL_cell_1 rfl rfl rfl ?_
    refine mj_alen (q := 3) dL_cell_2 rfl (by assumption) rfl ?_
    refine mj_icmp_ge (tgt := 12) (q := 6) dL_cell_3 (by decide) rfl (fun c_3 => absurd c_3 (nI_ge (a := k) (b := L) h (by omega))) (fun c_3 => ?_)
    refine mj_aload_n (i := 0) (q := 7) dL_cell_6 rfl rfl rfl ?_
    refine mj_iload_n (i := 1) (q := 8) dL_cell_7 rfl rfl rfl ?_
    refine mj_ialdn (q := 9) dL_cell_8 rfl (by assumption) ⟨h, hL⟩ ?_
    refine mj_goto (q := 18) dL_cell_9 (by decide) ?_
    exact mj_ireturn dL_cell_18 ⟨_, rfl, rfl⟩ ⟨_, rfl, rfl, e.symm⟩
  · have e : vCell (f a) L k = 790386105 * (nI k + 3) := if_neg h
    refine mj_entry (by refine ⟨by decide +kernel, by decide, rfl, Nat.le_of_ble_eq_true rfl⟩) ?_
    show mj_W _ _ _ _ _ 0 [.ref a, .int (nI k)] [] _
    refine mj_iload_n (i := 1) (q := 1) dL_cell_0 rfl rfl rfl ?_
    refine mj_aload_n (i := 0) (q := 2) dL_cell_1 rfl rfl rfl ?_
    refine mj_alen (q := 3) dL_cell_2 rfl (by assumption) rfl ?_
    refine mj_icmp_ge (tgt := 12) (q := 6) dL_cell_3 (by decide) rfl (fun c_3 => ?_) (fun c_3 => absurd (nI_le (a := L) (b := k) (by omega) (by omega)) c_3)
    refine mj_ldc (q := 14) dL_cell_12 ct_L_8 rfl ?_
    refine mj_iload_n (i := 1) (q := 15) dL_cell_14 rfl rfl rfl ?_
    refine mj_num1 (v := 3) (q := 16) rfl dL_cell_15 rfl ?_
    refine mj_iadd (q := 17) dL_cell_16 rfl ?_
    refine mj_imul (q := 18) dL_cell_17 rfl ?_
    exact mj_ireturn dL_cell_18 ⟨_, rfl, rfl⟩ ⟨_, rfl, rfl, e.symm⟩
set_option maxHeartbeats 4000000 in
set_option maxRecDepth 100000 in
theorem s_weather {d : Nat} {x : Int32} {n : Nat} {K : Nat → mj_K} {f : Nat → Nat → Int32} {g : Nat → Nat → Option Nat} : mj_C m_L_weather (d + 1) (1 + 0) (5 + 0) [.int x] (n, K, f, g) (fun v h1 => v = some (.ref n) ∧ ∃ f1, h1 = (n + 1, mj_row K n (0, 5, 0), f1, mj_row g n (fun _ => none)) ∧ (∀ a, a ≠ n → f1 a = f a) ∧ ∀ k, k < 5 → f1 n k = vWby x k) := by
  refine mj_entry (by refine ⟨by decide +kernel, by decide, rfl, Nat.le_of_ble_eq_true rfl⟩) ?_
  show mj_W _ _ _ _ _ 0 [.int x, .null] [] _
  refine mj_num1 (v := 5) (q := 1) rfl dL_weather_0 rfl ?_
  refine mj_newa (L := 5) (q := 3) dL_weather_1 aw_int (by decide) (by decide) (by decide) rfl ?_
  have hk : mj_row K n (0, 5, 0) n = (0, 5, 0) := mj_rowe
  refine mj_dup (q := 4) rfl dL_weather_3 rfl ?_
  refine mj_num1 (v := nI 0) (q := 5) (by decide) dL_weather_4 rfl ?_
  refine mj_iload_n (i := 0) (q := 6) dL_weather_5 rfl rfl rfl ?_
  refine mj_num1 (v := 3) (q := 7) rfl dL_weather_6 rfl ?_
  refine mj_ishr (q := 8) dL_weather_7 rfl ?_
  refine mj_num2 (v := 31) (q := 10) (by decide) dL_weather_8 rfl ?_
  refine mj_cS2i (K := m_L_below) (q := 13) dL_weather_10 ln_L_9 ok_L_below (Nat.le_of_ble_eq_true rfl) (by decide) rfl (s_below (by decide)) (fun r_10 h1 hq => ?_)
  obtain ⟨rfl, rfl⟩ := hq
  refine mj_num2 (v := 18) (q := 15) (by decide) dL_weather_13 rfl ?_
  refine mj_isub (q := 16) dL_weather_15 rfl ?_
  refine mj_iastn (q := 17) dL_weather_16 rfl (by assumption) ⟨by decide, by decide⟩ ?_
  refine mj_dup (q := 18) rfl dL_weather_17 rfl ?_
  refine mj_num1 (v := nI 1) (q := 19) (by decide) dL_weather_18 rfl ?_
  refine mj_iload_n (i := 0) (q := 20) dL_weather_19 rfl rfl rfl ?_
  refine mj_num2 (v := 6) (q := 22) (by decide) dL_weather_20 rfl ?_
  refine mj_ishr (q := 23) dL_weather_22 rfl ?_
  refine mj_num1 (v := 2) (q := 24) rfl dL_weather_23 rfl ?_
  refine mj_cS2i (K := m_L_below) (q := 27) dL_weather_24 ln_L_9 ok_L_below (Nat.le_of_ble_eq_true rfl) (by decide) rfl (s_below (by decide)) (fun r_24 h1 hq => ?_)
  obtain ⟨rfl, rfl⟩ := hq
  refine mj_if_ne (tgt := 34) (q := 30) dL_weather_27 (by decide) rfl (fun c_27 => ?_) (fun c_27 => ?_)
  · refine mj_iload_n (i := 0) (q := 35) dL_weather_34 rfl rfl rfl ?_
    refine mj_num1 (v := 5) (q := 36) rfl dL_weather_35 rfl ?_
    refine mj_ishr (q := 37) dL_weather_36 rfl ?_
    refine mj_num2 (v := 10) (q := 39) (by decide) dL_weather_37 rfl ?_
    refine mj_cS2i (K := m_L_below) (q := 42) dL_weather_39 ln_L_9 ok_L_below (Nat.le_of_ble_eq_true rfl) (by decide) rfl (s_below (by decide)) (fun r_39 h1 hq => ?_)
    obtain ⟨rfl, rfl⟩ := hq
    refine mj_iastn (q := 43) dL_weather_42 rfl (by assumption) ⟨by decide, by decide⟩ ?_
    refine mj_dup (q := 44) rfl dL_weather_43 rfl ?_
    refine mj_num1 (v := nI 2) (q := 45) (by decide) dL_weather_44 rfl ?_
    refine mj_iload_n (i := 0) (q := 46) dL_weather_45 rfl rfl rfl ?_
    refine mj_num2 (v := 7) (q := 48) (by decide) dL_weather_46 rfl ?_
    refine mj_ishr (q := 49) dL_weather_48 rfl ?_
    refine mj_num1 (v := 3) (q := 50) rfl dL_weather_49 rfl ?_
    refine mj_cS2i (K := m_L_below) (q := 53) dL_weather_50 ln_L_9 ok_L_below (Nat.le_of_ble_eq_true rfl) (by decide) rfl (s_below (by decide)) (fun r_50 h1 hq => ?_)
    obtain ⟨rfl, rfl⟩ := hq
    refine mj_if_le (tgt := 66) (q := 56) dL_weather_53 (by decide) rfl (fun c_53 => ?_) (fun c_53 => ?_)
    · refine mj_iload_n (i := 0) (q := 67) dL_weather_66 rfl rfl rfl ?_
      refine mj_num1 (v := 4) (q := 68) rfl dL_weather_67 rfl ?_
      refine mj_ishr (q := 69) dL_weather_68 rfl ?_
      refine mj_num2 (v := 10) (q := 71) (by decide) dL_weather_69 rfl ?_
      refine mj_cS2i (K := m_L_below) (q := 74) dL_weather_71 ln_L_9 ok_L_below (Nat.le_of_ble_eq_true rfl) (by decide) rfl (s_below (by decide)) (fun r_71 h1 hq => ?_)
      obtain ⟨rfl, rfl⟩ := hq
      refine mj_iastn (q := 75) dL_weather_74 rfl (by assumption) ⟨by decide, by decide⟩ ?_
      refine mj_dup (q := 76) rfl dL_weather_75 rfl ?_
      refine mj_num1 (v := nI 3) (q := 77) (by decide) dL_weather_76 rfl ?_
      refine mj_iload_n (i := 0) (q := 78) dL_weather_77 rfl rfl rfl ?_
      refine mj_num1 (v := 2) (q := 79) rfl dL_weather_78 rfl ?_
      refine mj_ishr (q := 80) dL_weather_79 rfl ?_
      refine mj_num1 (v := 4) (q := 81) rfl dL_weather_80 rfl ?_
      refine mj_cS2i (K := m_L_below) (q := 84) dL_weather_81 ln_L_9 ok_L_below (Nat.le_of_ble_eq_true rfl) (by decide) rfl (s_below (by decide)) (fun r_81 h1 hq => ?_)
      obtain ⟨rfl, rfl⟩ := hq
      refine mj_iastn (q := 85) dL_weather_84 rfl (by assumption) ⟨by decide, by decide⟩ ?_
      refine mj_dup (q := 86) rfl dL_weather_85 rfl ?_
      refine mj_num1 (v := nI 4) (q := 87) (by decide) dL_weather_86 rfl ?_
      refine mj_iload_n (i := 0) (q := 88) dL_weather_87 rfl rfl rfl ?_
      refine mj_num1 (v := 5) (q := 89) rfl dL_weather_88 rfl ?_
      refine mj_ishr (q := 90) dL_weather_89 rfl ?_
      refine mj_num2 (v := 101) (q := 92) (by decide) dL_weather_90 rfl ?_
      refine mj_cS2i (K := m_L_below) (q := 95) dL_weather_92 ln_L_9 ok_L_below (Nat.le_of_ble_eq_true rfl) (by decide) rfl (s_below (by decide)) (fun r_92 h1 hq => ?_)
      obtain ⟨rfl, rfl⟩ := hq
      refine mj_iastn (q := 96) dL_weather_95 rfl (by assumption) ⟨by decide, by decide⟩ ?_
      refine mj_astore_n (i := 1) (q := 97) dL_weather_96 rfl rfl (by decide) rfl ?_
      dsimp only [List.set]
      refine mj_aload_n (i := 1) (q := 98) dL_weather_97 rfl rfl rfl ?_
      have e1 : vWby x 1 = _ := if_neg c_27
      have e2 : vWby x 2 = _ := if_neg (Int32.not_lt.mpr c_53)
      refine mj_areturn dL_weather_98 ⟨_, rfl, Or.inr ⟨_, rfl⟩⟩ ⟨rfl, _, rfl, fun a ha => (mj_upr ha).trans ((mj_upr ha).trans ((mj_upr ha).trans ((mj_upr ha).trans ((mj_upr ha).trans (mj_rown ha))))), fun k hk9 => ?_⟩
      match k, hk9 with
      | 0, _ => simp [mj_up, vWby, vShr]
      | 1, _ => simp [mj_up]; exact e1.symm
      | 2, _ => simp [mj_up]; exact e2.symm
      | 3, _ => simp [mj_up, vWby, vShr]
      | 4, _ => simp [mj_up, vWby, vShr]
      | z + 5, h9 => exact absurd h9 (by omega)
    · refine mj_iload_n (i := 0) (q := 57) dL_weather_56 rfl rfl rfl ?_
      refine mj_num1 (v := 4) (q := 58) rfl dL_weather_57 rfl ?_
      refine mj_ishr (q := 59) dL_weather_58 rfl ?_
      refine mj_num1 (v := 5) (q := 60) rfl dL_weather_59 rfl ?_
      refine mj_cS2i (K := m_L_below) (q := 63) dL_weather_60 ln_L_9 ok_L_below (Nat.le_of_ble_eq_true rfl) (by decide) rfl (s_below (by decide)) (fun r_60 h1 hq => ?_)
      obtain ⟨rfl, rfl⟩ := hq
      refine mj_goto (q := 74) dL_weather_63 (by decide) ?_
      refine mj_iastn (q := 75) dL_weather_74 rfl (by assumption) ⟨by decide, by decide⟩ ?_
      refine mj_dup (q := 76) rfl dL_weather_75 rfl ?_
      refine mj_num1 (v := nI 3) (q := 77) (by decide) dL_weather_76 rfl ?_
      refine mj_iload_n (i := 0) (q := 78) dL_weather_77 rfl rfl rfl ?_
      refine mj_num1 (v := 2) (q := 79) rfl dL_weather_78 rfl ?_
      refine mj_ishr (q := 80) dL_weather_79 rfl ?_
      refine mj_num1 (v := 4) (q := 81) rfl dL_weather_80 rfl ?_
      refine mj_cS2i (K := m_L_below) (q := 84) dL_weather_81 ln_L_9 ok_L_below (Nat.le_of_ble_eq_true rfl) (by decide) rfl (s_below (by decide)) (fun r_81 h1 hq => ?_)
      obtain ⟨rfl, rfl⟩ := hq
      refine mj_iastn (q := 85) dL_weather_84 rfl (by assumption) ⟨by decide, by decide⟩ ?_
      refine mj_dup (q := 86) rfl dL_weather_85 rfl ?_
      refine mj_num1 (v := nI 4) (q := 87) (by decide) dL_weather_86 rfl ?_
      refine mj_iload_n (i := 0) (q := 88) dL_weather_87 rfl rfl rfl ?_
      refine mj_num1 (v := 5) (q := 89) rfl dL_weather_88 rfl ?_
      refine mj_ishr (q := 90) dL_weather_89 rfl ?_
      refine mj_num2 (v := 101) (q := 92) (by decide) dL_weather_90 rfl ?_
      refine mj_cS2i (K := m_L_below) (q := 95) dL_weather_92 ln_L_9 ok_L_below (Nat.le_of_ble_eq_true rfl) (by decide) rfl (s_below (by decide)) (fun r_92 h1 hq => ?_)
      obtain ⟨rfl, rfl⟩ := hq
      refine mj_iastn (q := 96) dL_weather_95 rfl (by assumption) ⟨by decide, by decide⟩ ?_
      refine mj_astore_n (i := 1) (q := 97) dL_weather_96 rfl rfl (by decide) rfl ?_
      dsimp only [List.set]
      refine mj_aload_n (i := 1) (q := 98) dL_weather_97 rfl rfl rfl ?_
      have e1 : vWby x 1 = _ := if_neg c_27
      have e2 : vWby x 2 = _ := if_pos (Int32.not_le.mp c_53)
      refine mj_areturn dL_weather_98 ⟨_, rfl, Or.inr ⟨_, rfl⟩⟩ ⟨rfl, _, rfl, fun a ha => (mj_upr ha).trans ((mj_upr ha).trans ((mj_upr ha).trans ((mj_upr ha).trans ((mj_upr ha).trans (mj_rown ha))))), fun k hk9 => ?_⟩
      match k, hk9 with
      | 0, _ => simp [mj_up, vWby, vShr]
      | 1, _ => simp [mj_up]; exact e1.symm
      | 2, _ => simp [mj_up]; exact e2.symm
      | 3, _ => simp [mj_up, vWby, vShr]
      | 4, _ => simp [mj_up, vWby, vShr]
      | z + 5, h9 => exact absurd h9 (by omega)
  · refine mj_num1 (v := 0) (q := 31) rfl dL_weather_30 rfl ?_
    refine mj_goto (q := 42) dL_weather_31 (by decide) ?_
    refine mj_iastn (q := 43) dL_weather_42 rfl (by assumption) ⟨by decide, by decide⟩ ?_
    refine mj_dup (q := 44) rfl dL_weather_43 rfl ?_
    refine mj_num1 (v := nI 2) (q := 45) (by decide) dL_weather_44 rfl ?_
    refine mj_iload_n (i := 0) (q := 46) dL_weather_45 rfl rfl rfl ?_
    refine mj_num2 (v := 7) (q := 48) (by decide) dL_weather_46 rfl ?_
    refine mj_ishr (q := 49) dL_weather_48 rfl ?_
    refine mj_num1 (v := 3) (q := 50) rfl dL_weather_49 rfl ?_
    refine mj_cS2i (K := m_L_below) (q := 53) dL_weather_50 ln_L_9 ok_L_below (Nat.le_of_ble_eq_true rfl) (by decide) rfl (s_below (by decide)) (fun r_50 h1 hq => ?_)
    obtain ⟨rfl, rfl⟩ := hq
    refine mj_if_le (tgt := 66) (q := 56) dL_weather_53 (by decide) rfl (fun c_53 => ?_) (fun c_53 => ?_)
    · refine mj_iload_n (i := 0) (q := 67) dL_weather_66 rfl rfl rfl ?_
      refine mj_num1 (v := 4) (q := 68) rfl dL_weather_67 rfl ?_
      refine mj_ishr (q := 69) dL_weather_68 rfl ?_
      refine mj_num2 (v := 10) (q := 71) (by decide) dL_weather_69 rfl ?_
      refine mj_cS2i (K := m_L_below) (q := 74) dL_weather_71 ln_L_9 ok_L_below (Nat.le_of_ble_eq_true rfl) (by decide) rfl (s_below (by decide)) (fun r_71 h1 hq => ?_)
      obtain ⟨rfl, rfl⟩ := hq
      refine mj_iastn (q := 75) dL_weather_74 rfl (by assumption) ⟨by decide, by decide⟩ ?_
      refine mj_dup (q := 76) rfl dL_weather_75 rfl ?_
      refine mj_num1 (v := nI 3) (q := 77) (by decide) dL_weather_76 rfl ?_
      refine mj_iload_n (i := 0) (q := 78) dL_weather_77 rfl rfl rfl ?_
      refine mj_num1 (v := 2) (q := 79) rfl dL_weather_78 rfl ?_
      refine mj_ishr (q := 80) dL_weather_79 rfl ?_
      refine mj_num1 (v := 4) (q := 81) rfl dL_weather_80 rfl ?_
      refine mj_cS2i (K := m_L_below) (q := 84) dL_weather_81 ln_L_9 ok_L_below (Nat.le_of_ble_eq_true rfl) (by decide) rfl (s_below (by decide)) (fun r_81 h1 hq => ?_)
      obtain ⟨rfl, rfl⟩ := hq
      refine mj_iastn (q := 85) dL_weather_84 rfl (by assumption) ⟨by decide, by decide⟩ ?_
      refine mj_dup (q := 86) rfl dL_weather_85 rfl ?_
      refine mj_num1 (v := nI 4) (q := 87) (by decide) dL_weather_86 rfl ?_
      refine mj_iload_n (i := 0) (q := 88) dL_weather_87 rfl rfl rfl ?_
      refine mj_num1 (v := 5) (q := 89) rfl dL_weather_88 rfl ?_
      refine mj_ishr (q := 90) dL_weather_89 rfl ?_
      refine mj_num2 (v := 101) (q := 92) (by decide) dL_weather_90 rfl ?_
      refine mj_cS2i (K := m_L_below) (q := 95) dL_weather_92 ln_L_9 ok_L_below (Nat.le_of_ble_eq_true rfl) (by decide) rfl (s_below (by decide)) (fun r_92 h1 hq => ?_)
      obtain ⟨rfl, rfl⟩ := hq
      refine mj_iastn (q := 96) dL_weather_95 rfl (by assumption) ⟨by decide, by decide⟩ ?_
      refine mj_astore_n (i := 1) (q := 97) dL_weather_96 rfl rfl (by decide) rfl ?_
      dsimp only [List.set]
      refine mj_aload_n (i := 1) (q := 98) dL_weather_97 rfl rfl rfl ?_
      have e1 : vWby x 1 = _ := if_pos c_27
      have e2 : vWby x 2 = _ := if_neg (Int32.not_lt.mpr c_53)
      refine mj_areturn dL_weather_98 ⟨_, rfl, Or.inr ⟨_, rfl⟩⟩ ⟨rfl, _, rfl, fun a ha => (mj_upr ha).trans ((mj_upr ha).trans ((mj_upr ha).trans ((mj_upr ha).trans ((mj_upr ha).trans (mj_rown ha))))), fun k hk9 => ?_⟩
      match k, hk9 with
      | 0, _ => simp [mj_up, vWby, vShr]
      | 1, _ => simp [mj_up]; exact e1.symm
      | 2, _ => simp [mj_up]; exact e2.symm
      | 3, _ => simp [mj_up, vWby, vShr]
      | 4, _ => simp [mj_up, vWby, vShr]
      | z + 5, h9 => exact absurd h9 (by omega)
    · refine mj_iload_n (i := 0) (q := 57) dL_weather_56 rfl rfl rfl ?_
      refine mj_num1 (v := 4) (q := 58) rfl dL_weather_57 rfl ?_
      refine mj_ishr (q := 59) dL_weather_58 rfl ?_
      refine mj_num1 (v := 5) (q := 60) rfl dL_weather_59 rfl ?_
      refine mj_cS2i (K := m_L_below) (q := 63) dL_weather_60 ln_L_9 ok_L_below (Nat.le_of_ble_eq_true rfl) (by decide) rfl (s_below (by decide)) (fun r_60 h1 hq => ?_)
      obtain ⟨rfl, rfl⟩ := hq
      refine mj_goto (q := 74) dL_weather_63 (by decide) ?_
      refine mj_iastn (q := 75) dL_weather_74 rfl (by assumption) ⟨by decide, by decide⟩ ?_
      refine mj_dup (q := 76) rfl dL_weather_75 rfl ?_
      refine mj_num1 (v := nI 3) (q := 77) (by decide) dL_weather_76 rfl ?_
      refine mj_iload_n (i := 0) (q := 78) dL_weather_77 rfl rfl rfl ?_
      refine mj_num1 (v := 2) (q := 79) rfl dL_weather_78 rfl ?_
      refine mj_ishr (q := 80) dL_weather_79 rfl ?_
      refine mj_num1 (v := 4) (q := 81) rfl dL_weather_80 rfl ?_
      refine mj_cS2i (K := m_L_below) (q := 84) dL_weather_81 ln_L_9 ok_L_below (Nat.le_of_ble_eq_true rfl) (by decide) rfl (s_below (by decide)) (fun r_81 h1 hq => ?_)
      obtain ⟨rfl, rfl⟩ := hq
      refine mj_iastn (q := 85) dL_weather_84 rfl (by assumption) ⟨by decide, by decide⟩ ?_
      refine mj_dup (q := 86) rfl dL_weather_85 rfl ?_
      refine mj_num1 (v := nI 4) (q := 87) (by decide) dL_weather_86 rfl ?_
      refine mj_iload_n (i := 0) (q := 88) dL_weather_87 rfl rfl rfl ?_
      refine mj_num1 (v := 5) (q := 89) rfl dL_weather_88 rfl ?_
      refine mj_ishr (q := 90) dL_weather_89 rfl ?_
      refine mj_num2 (v := 101) (q := 92) (by decide) dL_weather_90 rfl ?_
      refine mj_cS2i (K := m_L_below) (q := 95) dL_weather_92 ln_L_9 ok_L_below (Nat.le_of_ble_eq_true rfl) (by decide) rfl (s_below (by decide)) (fun r_92 h1 hq => ?_)
      obtain ⟨rfl, rfl⟩ := hq
      refine mj_iastn (q := 96) dL_weather_95 rfl (by assumption) ⟨by decide, by decide⟩ ?_
      refine mj_astore_n (i := 1) (q := 97) dL_weather_96 rfl rfl (by decide) rfl ?_
      dsimp only [List.set]
      refine mj_aload_n (i := 1) (q := 98) dL_weather_97 rfl rfl rfl ?_
      have e1 : vWby x 1 = _ := if_pos c_27
      have e2 : vWby x 2 = _ := if_pos (Int32.not_le.mp c_53)
      refine mj_areturn dL_weather_98 ⟨_, rfl, Or.inr ⟨_, rfl⟩⟩ ⟨rfl, _, rfl, fun a ha => (mj_upr ha).trans ((mj_upr ha).trans ((mj_upr ha).trans ((mj_upr ha).trans ((mj_upr ha).trans (mj_rown ha))))), fun k hk9 => ?_⟩
      match k, hk9 with
      | 0, _ => simp [mj_up, vWby, vShr]
      | 1, _ => simp [mj_up]; exact e1.symm
      | 2, _ => simp [mj_up]; exact e2.symm
      | 3, _ => simp [mj_up, vWby, vShr]
      | 4, _ => simp [mj_up, vWby, vShr]
      | z + 5, h9 => exact absurd h9 (by omega)
set_option maxHeartbeats 4000000 in
set_option maxRecDepth 100000 in
theorem s_lpass {d x m b hh : Nat} {wa fa wi fr hu : Int32} {n : Nat} {K : Nat → mj_K} {f : Nat → Nat → Int32} {g : Nat → Nat → Option Nat} {y : mV} (hP : LPn K g x m) (hN : MN f m y) (hb : K b = (0, 5, 0)) (q0 : f b 0 = wa) (q1 : f b 1 = fa) (q2 : f b 2 = wi) (q3 : f b 3 = fr) (q4 : f b 4 = hu) (hh1 : 1 ≤ hh) (hh2 : hh ≤ 48) (w1 : -20 ≤ wa) (w2 : wa ≤ 20) (w3 : 0 ≤ fa) (w4 : fa ≤ 9) (w5 : 0 ≤ wi) (w6 : wi ≤ 9) (w7 : 0 ≤ fr) (w8 : fr ≤ 3) (w9 : 0 ≤ hu) (w10 : hu ≤ 100) (hlate : y.2.2.1 4 + nI hh ≤ 9999) : mj_Ci m_L_pass (d + 7) [.ref x, .int (nI hh), .ref b] (n, K, f, g) (fun r h1 => r = (vIter (wW wa fa wi fr hu) hh y).2.2.1 10 - y.2.2.1 10 ∧ ∃ f1, h1 = (n, K, f1, g) ∧ MN f1 m (vIter (wW wa fa wi fr hu) hh y) ∧ mj_Fr m (m + 142) f f1) := by
  have kx : K x = (2, 5, 0) := hP.1
  subst q0 q1 q2 q3 q4
  refine mj_entry (by refine ⟨by decide +kernel, by decide, rfl, Nat.le_of_ble_eq_true rfl⟩) ?_
  show mj_W _ _ _ _ _ 0 [.ref x, .int (nI hh), .ref b] [] _
  refine mj_aload_n (i := 0) (q := 1) dL_pass_0 rfl rfl rfl ?_
  refine mj_iload_n (i := 1) (q := 2) dL_pass_1 rfl rfl rfl ?_
  refine mj_aload_n (i := 2) (q := 3) dL_pass_2 rfl rfl rfl ?_
  refine mj_num1 (v := nI 0) (q := 4) (by decide) dL_pass_3 rfl ?_
  refine mj_ialdn (q := 5) dL_pass_4 rfl (by assumption) ⟨by decide, by decide⟩ ?_
  refine mj_aload_n (i := 2) (q := 6) dL_pass_5 rfl rfl rfl ?_
  refine mj_num1 (v := nI 1) (q := 7) (by decide) dL_pass_6 rfl ?_
  refine mj_ialdn (q := 8) dL_pass_7 rfl (by assumption) ⟨by decide, by decide⟩ ?_
  refine mj_aload_n (i := 2) (q := 9) dL_pass_8 rfl rfl rfl ?_
  refine mj_num1 (v := nI 2) (q := 10) (by decide) dL_pass_9 rfl ?_
  refine mj_ialdn (q := 11) dL_pass_10 rfl (by assumption) ⟨by decide, by decide⟩ ?_
  refine mj_aload_n (i := 2) (q := 12) dL_pass_11 rfl rfl rfl ?_
  refine mj_num1 (v := nI 3) (q := 13) (by decide) dL_pass_12 rfl ?_
  refine mj_ialdn (q := 14) dL_pass_13 rfl (by assumption) ⟨by decide, by decide⟩ ?_
  refine mj_aload_n (i := 2) (q := 15) dL_pass_14 rfl rfl rfl ?_
  refine mj_num1 (v := nI 4) (q := 16) (by decide) dL_pass_15 rfl ?_
  refine mj_ialdn (q := 17) dL_pass_16 rfl (by assumption) ⟨by decide, by decide⟩ ?_
  refine mj_cV6i (K := m_X5_pass) (q := 20) dL_pass_17 ln_L_15 ok_X5_pass (Nat.le_of_ble_eq_true rfl) (by decide) (by assumption) rfl rfl (s_pass hP hN hh1 hh2 w1 w2 w3 w4 w5 w6 w7 w8 w9 w10 hlate) (fun r_17 h1 hq => ?_)
  exact mj_ireturn dL_pass_20 ⟨_, rfl, rfl⟩ ⟨_, rfl, hq⟩
