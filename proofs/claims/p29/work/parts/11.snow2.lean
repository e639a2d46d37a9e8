/-! SNOW, second part: what falls, drifts, freezes, grows weak; become -/
theorem mj_i01 {b : Bool} : (if b = true then (1 : Int32) else 0) = 0 ↔ b = false := by cases b <;> simp
theorem mj_rown {α : Type} {f : Nat → α} {a : Nat} {v : α} {b : Nat} (h : b ≠ a) : mj_row f a v b = f b := by unfold mj_row; rw [if_neg h]
theorem mj_rowe {α : Type} {f : Nat → α} {a : Nat} {v : α} : mj_row f a v a = v := by unfold mj_row; rw [if_pos rfl]
theorem mj_cpy8 {f g : Nat → Int32} {k : Nat} (hk : k < 8) : va_cpy f g (0 : Int32).toNatClampNeg (0 : Int32).toNatClampNeg (8 : Int32).toNatClampNeg k = f k := by
  unfold va_cpy
  have e0 : (0 : Int32).toNatClampNeg = 0 := by decide
  have e8 : (8 : Int32).toNatClampNeg = 8 := by decide
  rw [e0, e8, if_pos ⟨Nat.zero_le k, by omega⟩, Nat.zero_add, Nat.sub_zero]
theorem SN.set5 {f : Nat → Nat → Int32} {s : Nat} {x : sV} {b : Int32} (h : SN f s x) (hb : b = 0 ∨ b = 1) : SN (mj_up f s 5 b) s (vSet b x) := by
  obtain ⟨b0, b1, b2, b3, b4, b5, b6, b7, b8⟩ := h
  refine ⟨b0, ?_, ?_, ?_, ?_, ?_, ?_, b7, hb⟩ <;> first | (intro k hk; simp [mj_up, vSet, b4, b5, b6, hk]; done) | (simp [mj_up, vSet, b1, b2, b3]; done)
theorem SN.wet0 {f : Nat → Nat → Int32} {s : Nat} {x : sV} (h : SN f s x) : SN (mj_up f s 4 0) s (vWet0 x) := by
  obtain ⟨b0, b1, b2, b3, b4, b5, b6, b7, b8⟩ := h
  refine ⟨b0, ?_, ?_, ?_, ?_, ?_, ?_, Or.inl rfl, b8⟩ <;> first | (intro k hk; simp [mj_up, vWet0, b4, b5, b6, hk]; done) | (simp [mj_up, vWet0, b1, b2, b3]; done)

set_option maxHeartbeats 4000000 in
set_option maxRecDepth 100000 in
theorem s_comeDown {d s : Nat} {fall temp : Int32} {n : Nat} {K : Nat → mj_K} {f : Nat → Nat → Int32} {g : Nat → Nat → Option Nat} {x : sV} (hL : LSn K g s) (hS : SN f s x) : mj_Cv m_X3_comeDown (d + 3) [.ref s, .int fall, .int temp] (n, K, f, g) (fun h1 => ∃ f1, h1 = (n, K, f1, g) ∧ SN f1 s (vCome fall temp x) ∧ mj_Fr s (s + 4) f f1) := by
  have hL2 := hL
  obtain ⟨k0, k1, k2, k3, g0, g1, g2⟩ := hL
  have b3 : f s 5 = x.2.2.1 := hS.2.2.2.1
  have key1 : vSnows fall temp = true → mj_W m_X3_comeDown (d + 3) 0 0 (fun v h1 => v = none ∧ ∃ f2, h1 = (n, K, f2, g) ∧ SN f2 s (vCome fall temp x) ∧ mj_Fr s (s + 4) f f2) 13 [.ref s, .int fall, .int temp, .null] [.int 1] (n, K, f, g) := by
    intro hv
    have key2 : ∀ (f1 : Nat → Nat → Int32) (y : sV), SN f1 s y → mj_Fr s (s + 4) f f1 → vCome fall temp x = vSet 1 y → mj_W m_X3_comeDown (d + 3) 0 0 (fun v h1 => v = none ∧ ∃ f2, h1 = (n, K, f2, g) ∧ SN f2 s (vCome fall temp x) ∧ mj_Fr s (s + 4) f f2) 65 [.ref s, .int fall, .int temp, .int 1] [] (n, K, f1, g) := by
      intro f1 y hS1 hF1 hy
      rw [hy]
      refine mj_aload_n (i := 0) (q := 66) dX3_comeDown_65 rfl rfl rfl ?_
      refine mj_iload_n (i := 3) (q := 67) dX3_comeDown_66 rfl rfl rfl ?_
      refine mj_putf (q := 70) dX3_comeDown_67 fl_X3_35 rfl rfl (by first | assumption | exact (mj_upn (by omega)).trans (by assumption) | exact (mj_upn (by omega)).trans ((mj_upn (by omega)).trans (by assumption)) | exact (mj_upn (by omega)).trans ((mj_upn (by omega)).trans ((mj_upn (by omega)).trans (by assumption)))) rfl rfl rfl ?_
      exact mj_return dX3_comeDown_70 rfl ⟨rfl, ⟨_, rfl, hS1.set5 (by simp), by repeat (first | exact mj_Fr.rf | exact (by assumption) | refine mj_Fr.up ?_ (by omega) (by omega))⟩⟩
    refine mj_istore_n (i := 3) (q := 14) dX3_comeDown_13 rfl rfl (by decide) rfl ?_
    dsimp only [List.set]
    refine mj_iload_n (i := 3) (q := 15) dX3_comeDown_14 rfl rfl rfl ?_
    refine mj_if_eq (tgt := 41) (q := 18) dX3_comeDown_15 (by decide) rfl (fun c_15 => absurd c_15 (by decide)) (fun c_15 => ?_)
    refine mj_aload_n (i := 0) (q := 19) dX3_comeDown_18 rfl rfl rfl ?_
    refine mj_getf (q := 22) dX3_comeDown_19 fl_X3_35 rfl rfl (by first | assumption | exact (mj_upn (by omega)).trans (by assumption) | exact (mj_upn (by omega)).trans ((mj_upn (by omega)).trans (by assumption)) | exact (mj_upn (by omega)).trans ((mj_upn (by omega)).trans ((mj_upn (by omega)).trans (by assumption)))) ?_
    refine mj_if_eq (tgt := 41) (q := 25) dX3_comeDown_22 (by decide) rfl (fun c_22 => ?_) (fun c_22 => ?_)
    · refine mj_iload_n (i := 3) (q := 42) dX3_comeDown_41 rfl rfl rfl ?_
      refine mj_if_eq (tgt := 56) (q := 45) dX3_comeDown_42 (by decide) rfl (fun c_42 => absurd c_42 (by decide)) (fun c_42 => ?_)
      refine mj_aload_n (i := 0) (q := 46) dX3_comeDown_45 rfl rfl rfl ?_
      refine mj_num1 (v := 0) (q := 47) rfl dX3_comeDown_46 rfl ?_
      refine mj_iload_n (i := 1) (q := 48) dX3_comeDown_47 rfl rfl rfl ?_
      refine mj_num2 (v := 10) (q := 50) (by decide) dX3_comeDown_48 rfl ?_
      refine mj_cV3v (K := m_X3_lay) (q := 53) dX3_comeDown_50 ln_X3_72 ok_X3_lay (Nat.le_of_ble_eq_true rfl) (by decide) (by first | assumption | exact (mj_upn (by omega)).trans (by assumption) | exact (mj_upn (by omega)).trans ((mj_upn (by omega)).trans (by assumption)) | exact (mj_upn (by omega)).trans ((mj_upn (by omega)).trans ((mj_upn (by omega)).trans (by assumption)))) rfl rfl (s_lay hL2 hS) (fun h1 hq => ?_)
      obtain ⟨f1, rfl, hS1, hF1⟩ := hq
      refine mj_goto (q := 65) dX3_comeDown_53 (by decide) ?_
      exact key2 _ _ hS1 hF1 (by simp only [vCome]; rw [if_pos hv, if_pos hv, if_neg (fun z => z.1 (by rw [← b3]; exact c_22))])
    · refine mj_aload_n (i := 0) (q := 26) dX3_comeDown_25 rfl rfl rfl ?_
      refine mj_num1 (v := 0) (q := 27) rfl dX3_comeDown_26 rfl ?_
      refine mj_cV1i (K := m_X3_topIs) (q := 30) dX3_comeDown_27 ln_X3_65 ok_X3_topIs (Nat.le_of_ble_eq_true rfl) (by decide) (by first | assumption | exact (mj_upn (by omega)).trans (by assumption) | exact (mj_upn (by omega)).trans ((mj_upn (by omega)).trans (by assumption)) | exact (mj_upn (by omega)).trans ((mj_upn (by omega)).trans ((mj_upn (by omega)).trans (by assumption)))) rfl rfl (s_topIs hL2 hS) (fun r_27 h1 hq => ?_)
      obtain ⟨rfl, hr_27⟩ := hq
      refine mj_if_eq (tgt := 41) (q := 33) dX3_comeDown_30 (by decide) rfl (fun c_30 => ?_) (fun c_30 => ?_)
      · refine mj_iload_n (i := 3) (q := 42) dX3_comeDown_41 rfl rfl rfl ?_
        refine mj_if_eq (tgt := 56) (q := 45) dX3_comeDown_42 (by decide) rfl (fun c_42 => absurd c_42 (by decide)) (fun c_42 => ?_)
        refine mj_aload_n (i := 0) (q := 46) dX3_comeDown_45 rfl rfl rfl ?_
        refine mj_num1 (v := 0) (q := 47) rfl dX3_comeDown_46 rfl ?_
        refine mj_iload_n (i := 1) (q := 48) dX3_comeDown_47 rfl rfl rfl ?_
        refine mj_num2 (v := 10) (q := 50) (by decide) dX3_comeDown_48 rfl ?_
        refine mj_cV3v (K := m_X3_lay) (q := 53) dX3_comeDown_50 ln_X3_72 ok_X3_lay (Nat.le_of_ble_eq_true rfl) (by decide) (by first | assumption | exact (mj_upn (by omega)).trans (by assumption) | exact (mj_upn (by omega)).trans ((mj_upn (by omega)).trans (by assumption)) | exact (mj_upn (by omega)).trans ((mj_upn (by omega)).trans ((mj_upn (by omega)).trans (by assumption)))) rfl rfl (s_lay hL2 hS) (fun h1 hq => ?_)
        obtain ⟨f1, rfl, hS1, hF1⟩ := hq
        refine mj_goto (q := 65) dX3_comeDown_53 (by decide) ?_
        have h0 : vTop 0 x = false := by rw [hr_27, mj_i01] at c_30; exact c_30
        exact key2 _ _ hS1 hF1 (by simp only [vCome]; rw [if_pos hv, if_pos hv, if_neg (fun z => by rw [h0] at z; exact absurd z.2 (by simp))])
      · refine mj_aload_n (i := 0) (q := 34) dX3_comeDown_33 rfl rfl rfl ?_
        refine mj_iload_n (i := 1) (q := 35) dX3_comeDown_34 rfl rfl rfl ?_
        refine mj_cV1v (K := m_X3_thicken) (q := 38) dX3_comeDown_35 ln_X3_69 ok_X3_thicken (Nat.le_of_ble_eq_true rfl) (by decide) (by first | assumption | exact (mj_upn (by omega)).trans (by assumption) | exact (mj_upn (by omega)).trans ((mj_upn (by omega)).trans (by assumption)) | exact (mj_upn (by omega)).trans ((mj_upn (by omega)).trans ((mj_upn (by omega)).trans (by assumption)))) rfl rfl (s_thicken hL2 hS) (fun h1 hq => ?_)
        obtain ⟨f1, rfl, hS1, hF1⟩ := hq
        refine mj_goto (q := 65) dX3_comeDown_38 (by decide) ?_
        have h0 : vTop 0 x = true := by rw [hr_27, mj_i01] at c_30; simpa using c_30
        exact key2 _ _ hS1 hF1 (by simp only [vCome]; rw [if_pos hv, if_pos hv, if_pos ⟨by rw [← b3]; exact c_22, h0⟩])
  have key0 : vSnows fall temp = false → mj_W m_X3_comeDown (d + 3) 0 0 (fun v h1 => v = none ∧ ∃ f2, h1 = (n, K, f2, g) ∧ SN f2 s (vCome fall temp x) ∧ mj_Fr s (s + 4) f f2) 13 [.ref s, .int fall, .int temp, .null] [.int 0] (n, K, f, g) := by
    intro hv
    have key2 : ∀ (f1 : Nat → Nat → Int32) (y : sV), SN f1 s y → mj_Fr s (s + 4) f f1 → vCome fall temp x = vSet 0 y → mj_W m_X3_comeDown (d + 3) 0 0 (fun v h1 => v = none ∧ ∃ f2, h1 = (n, K, f2, g) ∧ SN f2 s (vCome fall temp x) ∧ mj_Fr s (s + 4) f f2) 65 [.ref s, .int fall, .int temp, .int 0] [] (n, K, f1, g) := by
      intro f1 y hS1 hF1 hy
      rw [hy]
      refine mj_aload_n (i := 0) (q := 66) dX3_comeDown_65 rfl rfl rfl ?_
      refine mj_iload_n (i := 3) (q := 67) dX3_comeDown_66 rfl rfl rfl ?_
      refine mj_putf (q := 70) dX3_comeDown_67 fl_X3_35 rfl rfl (by first | assumption | exact (mj_upn (by omega)).trans (by assumption) | exact (mj_upn (by omega)).trans ((mj_upn (by omega)).trans (by assumption)) | exact (mj_upn (by omega)).trans ((mj_upn (by omega)).trans ((mj_upn (by omega)).trans (by assumption)))) rfl rfl rfl ?_
      exact mj_return dX3_comeDown_70 rfl ⟨rfl, ⟨_, rfl, hS1.set5 (by simp), by repeat (first | exact mj_Fr.rf | exact (by assumption) | refine mj_Fr.up ?_ (by omega) (by omega))⟩⟩
    refine mj_istore_n (i := 3) (q := 14) dX3_comeDown_13 rfl rfl (by decide) rfl ?_
    dsimp only [List.set]
    refine mj_iload_n (i := 3) (q := 15) dX3_comeDown_14 rfl rfl rfl ?_
    refine mj_if_eq (tgt := 41) (q := 18) dX3_comeDown_15 (by decide) rfl (fun c_15 => ?_) (fun c_15 => absurd rfl c_15)
    refine mj_iload_n (i := 3) (q := 42) dX3_comeDown_41 rfl rfl rfl ?_
    refine mj_if_eq (tgt := 56) (q := 45) dX3_comeDown_42 (by decide) rfl (fun c_42 => ?_) (fun c_42 => absurd rfl c_42)
    refine mj_iload_n (i := 1) (q := 57) dX3_comeDown_56 rfl rfl rfl ?_
    refine mj_if_le (tgt := 65) (q := 60) dX3_comeDown_57 (by decide) rfl (fun c_57 => ?_) (fun c_57 => ?_)
    · exact key2 _ _ hS mj_Fr.rf (by simp only [vCome]; rw [if_neg (by rw [hv]; simp), if_neg (by rw [hv]; simp), if_neg (Int32.not_lt.mpr c_57)])
    · refine mj_aload_n (i := 0) (q := 61) dX3_comeDown_60 rfl rfl rfl ?_
      refine mj_iload_n (i := 1) (q := 62) dX3_comeDown_61 rfl rfl rfl ?_
      refine mj_cV1v (K := m_X3_melt) (q := 65) dX3_comeDown_62 ln_X3_76 ok_X3_melt (Nat.le_of_ble_eq_true rfl) (by decide) (by first | assumption | exact (mj_upn (by omega)).trans (by assumption) | exact (mj_upn (by omega)).trans ((mj_upn (by omega)).trans (by assumption)) | exact (mj_upn (by omega)).trans ((mj_upn (by omega)).trans ((mj_upn (by omega)).trans (by assumption)))) rfl rfl (s_melt hL2 hS) (fun h1 hq => ?_)
      obtain ⟨f1, rfl, hS1, hF1⟩ := hq
      exact key2 _ _ hS1 hF1 (by simp only [vCome]; rw [if_neg (by rw [hv]; simp), if_neg (by rw [hv]; simp), if_pos (Int32.not_le.mp c_57)])
  refine mj_entry (by refine ⟨by decide +kernel, by decide, rfl, Nat.le_of_ble_eq_true rfl⟩) ?_
  show mj_W _ _ _ _ _ 0 [.ref s, .int fall, .int temp, .null] [] _
  refine mj_iload_n (i := 1) (q := 1) dX3_comeDown_0 rfl rfl rfl ?_
  refine mj_if_le (tgt := 12) (q := 4) dX3_comeDown_1 (by decide) rfl (fun c_1 => ?_) (fun c_1 => ?_)
  · refine mj_num1 (v := 0) (q := 13) rfl dX3_comeDown_12 rfl ?_
    exact key0 (by simp [vSnows, Int32.not_lt.mpr c_1])
  · refine mj_iload_n (i := 2) (q := 5) dX3_comeDown_4 rfl rfl rfl ?_
    refine mj_if_gt (tgt := 12) (q := 8) dX3_comeDown_5 (by decide) rfl (fun c_5 => ?_) (fun c_5 => ?_)
    · refine mj_num1 (v := 0) (q := 13) rfl dX3_comeDown_12 rfl ?_
      exact key0 (by simp only [vSnows, Bool.and_eq_false_iff, decide_eq_false_iff_not]; exact Or.inr (Int32.not_le.mpr c_5))
    · refine mj_num1 (v := 1) (q := 9) rfl dX3_comeDown_8 rfl ?_
      refine mj_goto (q := 13) dX3_comeDown_9 (by decide) ?_
      exact key1 (by simp [vSnows, Int32.not_le.mp c_1, Int32.not_lt.mp c_5])
set_option maxHeartbeats 4000000 in
set_option maxRecDepth 100000 in
theorem s_drift {d s : Nat} {much lee win : Int32} {n : Nat} {K : Nat → mj_K} {f : Nat → Nat → Int32} {g : Nat → Nat → Option Nat} {x : sV} (hL : LSn K g s) (hS : SN f s x) : mj_Cv m_X3_drift (d + 3) [.ref s, .int much, .int lee, .int win] (n, K, f, g) (fun h1 => ∃ f1, h1 = (n, K, f1, g) ∧ SN f1 s (vDrift much lee win x) ∧ mj_Fr s (s + 4) f f1) := by
  have hL2 := hL
  obtain ⟨k0, k1, k2, k3, g0, g1, g2⟩ := hL
  by_cases hl : lee = 0
  · refine mj_entry (by refine ⟨by decide +kernel, by decide, rfl, Nat.le_of_ble_eq_true rfl⟩) ?_
    show mj_W _ _ _ _ _ 0 [.ref s, .int much, .int lee, .int win] [] _
    refine mj_iload_n (i := 2) (q := 1) dX3_drift_0 rfl rfl rfl ?_
    refine mj_if_eq (tgt := 20) (q := 4) dX3_drift_1 (by decide) rfl (fun c_1 => ?_) (fun c_1 => absurd hl c_1)
    refine mj_iload_n (i := 2) (q := 21) dX3_drift_20 rfl rfl rfl ?_
    refine mj_if_eq (tgt := 35) (q := 24) dX3_drift_21 (by decide) rfl (fun c_21 => ?_) (fun c_21 => absurd hl c_21)
    refine mj_iload_n (i := 3) (q := 36) dX3_drift_35 rfl rfl rfl ?_
    refine mj_if_eq (tgt := 52) (q := 39) dX3_drift_36 (by decide) rfl (fun c_36 => ?_) (fun c_36 => ?_)
    · have e : vDrift much lee win x = x := by simp only [vDrift]; rw [if_neg (fun z => z hl), if_neg (fun z => z.1 c_36)]
      exact mj_return dX3_drift_52 rfl ⟨rfl, f, rfl, by rw [e]; exact hS, mj_Fr.rf⟩
    · refine mj_aload_n (i := 0) (q := 40) dX3_drift_39 rfl rfl rfl ?_
      refine mj_num1 (v := 0) (q := 41) rfl dX3_drift_40 rfl ?_
      refine mj_cV1i (K := m_X3_topIs) (q := 44) dX3_drift_41 ln_X3_65 ok_X3_topIs (Nat.le_of_ble_eq_true rfl) (by decide) (by first | assumption | exact (mj_upn (by omega)).trans (by assumption) | exact (mj_upn (by omega)).trans ((mj_upn (by omega)).trans (by assumption)) | exact (mj_upn (by omega)).trans ((mj_upn (by omega)).trans ((mj_upn (by omega)).trans (by assumption)))) rfl rfl (s_topIs hL2 hS) (fun r_41 h1 hq => ?_)
      obtain ⟨rfl, hr_41⟩ := hq
      refine mj_if_eq (tgt := 52) (q := 47) dX3_drift_44 (by decide) rfl (fun c_44 => ?_) (fun c_44 => ?_)
      · have h0 : vTop 0 x = false := by rw [hr_41, mj_i01] at c_44; exact c_44
        have e : vDrift much lee win x = x := by simp only [vDrift]; rw [if_neg (fun z => z hl), if_neg (fun z => by rw [h0] at z; exact absurd z.2 (by simp))]
        exact mj_return dX3_drift_52 rfl ⟨rfl, f, rfl, by rw [e]; exact hS, mj_Fr.rf⟩
      · refine mj_aload_n (i := 0) (q := 48) dX3_drift_47 rfl rfl rfl ?_
        refine mj_iload_n (i := 1) (q := 49) dX3_drift_48 rfl rfl rfl ?_
        refine mj_cV1v (K := m_X3_thin) (q := 52) dX3_drift_49 ln_X3_51 ok_X3_thin (Nat.le_of_ble_eq_true rfl) (by decide) (by first | assumption | exact (mj_upn (by omega)).trans (by assumption) | exact (mj_upn (by omega)).trans ((mj_upn (by omega)).trans (by assumption)) | exact (mj_upn (by omega)).trans ((mj_upn (by omega)).trans ((mj_upn (by omega)).trans (by assumption)))) rfl rfl (s_thin hL2 hS) (fun h1 hq => ?_)
        obtain ⟨f1, rfl, hS1, hF1⟩ := hq
        have h0 : vTop 0 x = true := by rw [hr_41, mj_i01] at c_44; simpa using c_44
        have e : vDrift much lee win x = vThin much x := by simp only [vDrift]; rw [if_neg (fun z => z hl), if_pos ⟨c_36, h0⟩]
        exact mj_return dX3_drift_52 rfl ⟨rfl, _, rfl, by rw [e]; exact hS1, hF1⟩
  · refine mj_entry (by refine ⟨by decide +kernel, by decide, rfl, Nat.le_of_ble_eq_true rfl⟩) ?_
    show mj_W _ _ _ _ _ 0 [.ref s, .int much, .int lee, .int win] [] _
    refine mj_iload_n (i := 2) (q := 1) dX3_drift_0 rfl rfl rfl ?_
    refine mj_if_eq (tgt := 20) (q := 4) dX3_drift_1 (by decide) rfl (fun c_1 => absurd c_1 hl) (fun c_1 => ?_)
    refine mj_aload_n (i := 0) (q := 5) dX3_drift_4 rfl rfl rfl ?_
    refine mj_num1 (v := 0) (q := 6) rfl dX3_drift_5 rfl ?_
    refine mj_cV1i (K := m_X3_topIs) (q := 9) dX3_drift_6 ln_X3_65 ok_X3_topIs (Nat.le_of_ble_eq_true rfl) (by decide) (by first | assumption | exact (mj_upn (by omega)).trans (by assumption) | exact (mj_upn (by omega)).trans ((mj_upn (by omega)).trans (by assumption)) | exact (mj_upn (by omega)).trans ((mj_upn (by omega)).trans ((mj_upn (by omega)).trans (by assumption)))) rfl rfl (s_topIs hL2 hS) (fun r_6 h1 hq => ?_)
    obtain ⟨rfl, hr_6⟩ := hq
    refine mj_if_eq (tgt := 20) (q := 12) dX3_drift_9 (by decide) rfl (fun c_9 => ?_) (fun c_9 => ?_)
    · refine mj_iload_n (i := 2) (q := 21) dX3_drift_20 rfl rfl rfl ?_
      refine mj_if_eq (tgt := 35) (q := 24) dX3_drift_21 (by decide) rfl (fun c_21 => absurd c_21 hl) (fun c_21 => ?_)
      refine mj_aload_n (i := 0) (q := 25) dX3_drift_24 rfl rfl rfl ?_
      refine mj_num1 (v := 0) (q := 26) rfl dX3_drift_25 rfl ?_
      refine mj_iload_n (i := 1) (q := 27) dX3_drift_26 rfl rfl rfl ?_
      refine mj_num2 (v := 20) (q := 29) (by decide) dX3_drift_27 rfl ?_
      refine mj_cV3v (K := m_X3_lay) (q := 32) dX3_drift_29 ln_X3_72 ok_X3_lay (Nat.le_of_ble_eq_true rfl) (by decide) (by first | assumption | exact (mj_upn (by omega)).trans (by assumption) | exact (mj_upn (by omega)).trans ((mj_upn (by omega)).trans (by assumption)) | exact (mj_upn (by omega)).trans ((mj_upn (by omega)).trans ((mj_upn (by omega)).trans (by assumption)))) rfl rfl (s_lay hL2 hS) (fun h1 hq => ?_)
      obtain ⟨f1, rfl, hS1, hF1⟩ := hq
      refine mj_goto (q := 52) dX3_drift_32 (by decide) ?_
      have h0 : vTop 0 x = false := by rw [hr_6, mj_i01] at c_9; exact c_9
      have e : vDrift much lee win x = vLay 0 much 20 x := by simp only [vDrift]; rw [if_pos hl, if_neg (by rw [h0]; simp)]
      exact mj_return dX3_drift_52 rfl ⟨rfl, _, rfl, by rw [e]; exact hS1, hF1⟩
    · refine mj_aload_n (i := 0) (q := 13) dX3_drift_12 rfl rfl rfl ?_
      refine mj_iload_n (i := 1) (q := 14) dX3_drift_13 rfl rfl rfl ?_
      refine mj_cV1v (K := m_X3_thicken) (q := 17) dX3_drift_14 ln_X3_69 ok_X3_thicken (Nat.le_of_ble_eq_true rfl) (by decide) (by first | assumption | exact (mj_upn (by omega)).trans (by assumption) | exact (mj_upn (by omega)).trans ((mj_upn (by omega)).trans (by assumption)) | exact (mj_upn (by omega)).trans ((mj_upn (by omega)).trans ((mj_upn (by omega)).trans (by assumption)))) rfl rfl (s_thicken hL2 hS) (fun h1 hq => ?_)
      obtain ⟨f1, rfl, hS1, hF1⟩ := hq
      refine mj_goto (q := 52) dX3_drift_17 (by decide) ?_
      have h0 : vTop 0 x = true := by rw [hr_6, mj_i01] at c_9; simpa using c_9
      have e : vDrift much lee win x = vThicken much x := by simp only [vDrift]; rw [if_pos hl, if_pos h0]
      exact mj_return dX3_drift_52 rfl ⟨rfl, _, rfl, by rw [e]; exact hS1, hF1⟩
set_option maxHeartbeats 4000000 in
set_option maxRecDepth 100000 in
theorem s_freeze {d s : Nat} {n : Nat} {K : Nat → mj_K} {f : Nat → Nat → Int32} {g : Nat → Nat → Option Nat} {x : sV} (hL : LSn K g s) (hS : SN f s x) : mj_Cv m_X3_freeze (d + 1) [.ref s] (n, K, f, g) (fun h1 => ∃ f1, h1 = (n, K, f1, g) ∧ SN f1 s (vFreeze x) ∧ mj_Fr s (s + 4) f f1) := by
  have hL2 := hL
  obtain ⟨k0, k1, k2, k3, g0, g1, g2⟩ := hL
  have b2 : f s 4 = x.2.1 := hS.2.2.1
  refine mj_entry (by refine ⟨by decide +kernel, by decide, rfl, Nat.le_of_ble_eq_true rfl⟩) ?_
  show mj_W _ _ _ _ _ 0 [.ref s] [] _
  refine mj_aload_n (i := 0) (q := 1) dX3_freeze_0 rfl rfl rfl ?_
  refine mj_getf (q := 4) dX3_freeze_1 fl_X3_31 rfl rfl (by first | assumption | exact (mj_upn (by omega)).trans (by assumption) | exact (mj_upn (by omega)).trans ((mj_upn (by omega)).trans (by assumption)) | exact (mj_upn (by omega)).trans ((mj_upn (by omega)).trans ((mj_upn (by omega)).trans (by assumption)))) ?_
  refine mj_if_eq (tgt := 19) (q := 7) dX3_freeze_4 (by decide) rfl (fun c_4 => ?_) (fun c_4 => ?_)
  · have e : vFreeze x = x := by simp only [vFreeze]; rw [if_pos (by rw [← b2]; exact c_4)]
    exact mj_return dX3_freeze_19 rfl ⟨rfl, f, rfl, by rw [e]; exact hS, mj_Fr.rf⟩
  · refine mj_aload_n (i := 0) (q := 8) dX3_freeze_7 rfl rfl rfl ?_
    refine mj_num1 (v := 2) (q := 9) rfl dX3_freeze_8 rfl ?_
    refine mj_num2 (v := 80) (q := 11) (by decide) dX3_freeze_9 rfl ?_
    refine mj_cV2v (K := m_X3_changeTop) (q := 14) dX3_freeze_11 ln_X3_79 ok_X3_changeTop (Nat.le_of_ble_eq_true rfl) (by decide) (by first | assumption | exact (mj_upn (by omega)).trans (by assumption) | exact (mj_upn (by omega)).trans ((mj_upn (by omega)).trans (by assumption)) | exact (mj_upn (by omega)).trans ((mj_upn (by omega)).trans ((mj_upn (by omega)).trans (by assumption)))) rfl rfl (s_changeTop hL2 hS) (fun h1 hq => ?_)
    obtain ⟨f1, rfl, hS1, hF1⟩ := hq
    refine mj_aload_n (i := 0) (q := 15) dX3_freeze_14 rfl rfl rfl ?_
    refine mj_num1 (v := 0) (q := 16) rfl dX3_freeze_15 rfl ?_
    refine mj_putf (q := 19) dX3_freeze_16 fl_X3_31 rfl rfl (by first | assumption | exact (mj_upn (by omega)).trans (by assumption) | exact (mj_upn (by omega)).trans ((mj_upn (by omega)).trans (by assumption)) | exact (mj_upn (by omega)).trans ((mj_upn (by omega)).trans ((mj_upn (by omega)).trans (by assumption)))) rfl rfl rfl ?_
    have e : vFreeze x = vWet0 (vChange 2 80 x) := by simp only [vFreeze]; rw [if_neg (by rw [← b2]; exact c_4)]
    exact mj_return dX3_freeze_19 rfl ⟨rfl, _, rfl, by rw [e]; exact hS1.wet0, by repeat (first | exact mj_Fr.rf | exact (by assumption) | refine mj_Fr.up ?_ (by omega) (by omega))⟩
set_option maxHeartbeats 4000000 in
set_option maxRecDepth 100000 in
theorem s_growWeak {d s : Nat} {n : Nat} {K : Nat → mj_K} {f : Nat → Nat → Int32} {g : Nat → Nat → Option Nat} {x : sV} (hL : LSn K g s) (hS : SN f s x) : mj_Cv m_X3_growWeak (d + 1) [.ref s] (n, K, f, g) (fun h1 => ∃ f1, h1 = (n, K, f1, g) ∧ SN f1 s (vWeak x) ∧ mj_Fr s (s + 4) f f1) := by
  have hL2 := hL
  obtain ⟨k0, k1, k2, k3, g0, g1, g2⟩ := hL
  have b0 : x.1 ≤ 8 := hS.1
  have b1 : f s 3 = nI x.1 := hS.2.1
  have b4 : ∀ k, k < 8 → f (s + 1) k = x.2.2.2.1 k := hS.2.2.2.2.1
  refine mj_entry (by refine ⟨by decide +kernel, by decide, rfl, Nat.le_of_ble_eq_true rfl⟩) ?_
  show mj_W _ _ _ _ _ 0 [.ref s] [] _
  refine mj_aload_n (i := 0) (q := 1) dX3_growWeak_0 rfl rfl rfl ?_
  refine mj_num1 (v := 0) (q := 2) rfl dX3_growWeak_1 rfl ?_
  refine mj_cV1i (K := m_X3_topIs) (q := 5) dX3_growWeak_2 ln_X3_65 ok_X3_topIs (Nat.le_of_ble_eq_true rfl) (by decide) (by first | assumption | exact (mj_upn (by omega)).trans (by assumption) | exact (mj_upn (by omega)).trans ((mj_upn (by omega)).trans (by assumption)) | exact (mj_upn (by omega)).trans ((mj_upn (by omega)).trans ((mj_upn (by omega)).trans (by assumption)))) rfl rfl (s_topIs hL2 hS) (fun r_2 h1 hq => ?_)
  obtain ⟨rfl, hr_2⟩ := hq
  refine mj_if_eq (tgt := 30) (q := 8) dX3_growWeak_5 (by decide) rfl (fun c_5 => ?_) (fun c_5 => ?_)
  · have h1 : vTop 0 x = false := by rw [hr_2, mj_i01] at c_5; exact c_5
    have e : vWeak x = x := by simp only [vWeak]; rw [if_neg (fun z => by rw [h1] at z; exact absurd z.1 (by simp))]
    exact mj_return dX3_growWeak_30 rfl ⟨rfl, f, rfl, by rw [e]; exact hS, mj_Fr.rf⟩
  · have h0 : vTop 0 x = true := by rw [hr_2, mj_i01] at c_5; simpa using c_5
    have hpos : 0 < x.1 := by (simp only [vTop, Bool.and_eq_true, decide_eq_true_eq] at h0; exact h0.1)
    have e1 : nI x.1 - 1 = nI (x.1 - 1) := pk_sub (b := 1) hpos
    refine mj_aload_n (i := 0) (q := 9) dX3_growWeak_8 rfl rfl rfl ?_
    refine mj_getr (q := 12) dX3_growWeak_9 fl_X3_9 rfl rfl (by first | assumption | exact (mj_upn (by omega)).trans (by assumption) | exact (mj_upn (by omega)).trans ((mj_upn (by omega)).trans (by assumption)) | exact (mj_upn (by omega)).trans ((mj_upn (by omega)).trans ((mj_upn (by omega)).trans (by assumption)))) (by first | assumption | exact (mj_upn (by omega)).trans (by assumption) | exact (mj_upn (by omega)).trans ((mj_upn (by omega)).trans (by assumption)) | exact (mj_upn (by omega)).trans ((mj_upn (by omega)).trans ((mj_upn (by omega)).trans (by assumption)))) ?_
    refine mj_aload_n (i := 0) (q := 13) dX3_growWeak_12 rfl rfl rfl ?_
    refine mj_getfv (q := 16) dX3_growWeak_13 fl_X3_27 rfl rfl (by first | assumption | exact (mj_upn (by omega)).trans (by assumption) | exact (mj_upn (by omega)).trans ((mj_upn (by omega)).trans (by assumption)) | exact (mj_upn (by omega)).trans ((mj_upn (by omega)).trans ((mj_upn (by omega)).trans (by assumption)))) (by first | assumption | exact (mj_upn (by omega)).trans (by assumption) | exact (mj_upn (by omega)).trans ((mj_upn (by omega)).trans (by assumption)) | exact (mj_upn (by omega)).trans ((mj_upn (by omega)).trans ((mj_upn (by omega)).trans (by assumption)))) ?_
    refine mj_num1 (v := 1) (q := 17) rfl dX3_growWeak_16 rfl ?_
    refine mj_isub (q := 18) dX3_growWeak_17 rfl ?_
    refine mj_top e1 ?_
    refine mj_ialdn (q := 19) dX3_growWeak_18 rfl (by first | assumption | exact (mj_upn (by omega)).trans (by assumption) | exact (mj_upn (by omega)).trans ((mj_upn (by omega)).trans (by assumption)) | exact (mj_upn (by omega)).trans ((mj_upn (by omega)).trans ((mj_upn (by omega)).trans (by assumption)))) (by omega) ?_
    refine mj_top (b4 (x.1 - 1) (by omega)) ?_
    refine mj_num2 (v := 10) (q := 21) (by decide) dX3_growWeak_19 rfl ?_
    refine mj_icmp_gt (tgt := 30) (q := 24) dX3_growWeak_21 (by decide) rfl (fun c_21 => ?_) (fun c_21 => ?_)
    · have e : vWeak x = x := by simp only [vWeak]; rw [if_neg (fun z => absurd c_21 (Int32.not_lt.mpr z.2))]
      exact mj_return dX3_growWeak_30 rfl ⟨rfl, f, rfl, by rw [e]; exact hS, mj_Fr.rf⟩
    · refine mj_aload_n (i := 0) (q := 25) dX3_growWeak_24 rfl rfl rfl ?_
      refine mj_num1 (v := 1) (q := 26) rfl dX3_growWeak_25 rfl ?_
      refine mj_num1 (v := 5) (q := 27) rfl dX3_growWeak_26 rfl ?_
      refine mj_cV2v (K := m_X3_changeTop) (q := 30) dX3_growWeak_27 ln_X3_79 ok_X3_changeTop (Nat.le_of_ble_eq_true rfl) (by decide) (by first | assumption | exact (mj_upn (by omega)).trans (by assumption) | exact (mj_upn (by omega)).trans ((mj_upn (by omega)).trans (by assumption)) | exact (mj_upn (by omega)).trans ((mj_upn (by omega)).trans ((mj_upn (by omega)).trans (by assumption)))) rfl rfl (s_changeTop hL2 hS) (fun h1 hq => ?_)
      obtain ⟨f1, rfl, hS1, hF1⟩ := hq
      have e : vWeak x = vChange 1 5 x := by simp only [vWeak]; rw [if_pos ⟨h0, Int32.not_lt.mp c_21⟩]
      exact mj_return dX3_growWeak_30 rfl ⟨rfl, _, rfl, by rw [e]; exact hS1, hF1⟩
set_option maxHeartbeats 4000000 in
set_option maxRecDepth 100000 in
theorem s_snowBecome {d s s2 : Nat} {n : Nat} {K : Nat → mj_K} {f : Nat → Nat → Int32} {g : Nat → Nat → Option Nat} {x : sV} (hL : LSn K g s) (hL2 : LSn K g s2) (hap : s + 4 ≤ s2 ∨ s2 + 4 ≤ s) (hS : SN f s2 x) : mj_Cv m_X3_become (d + 1) [.ref s, .ref s2] (n, K, f, g) (fun h1 => ∃ f1, h1 = (n, K, f1, g) ∧ SN f1 s x ∧ mj_Fr s (s + 4) f f1) := by
  obtain ⟨k0, k1, k2, k3, g0, g1, g2⟩ := hL
  obtain ⟨j0, j1, j2, j3, q0, q1, q2⟩ := hL2
  obtain ⟨b0, b1, b2, b3, b4, b5, b6, b7, b8⟩ := hS
  have r1 : ∀ (u v z : Nat → Int32) (k : Nat), mj_row (mj_row (mj_row f (s + 1) u) (s + 2) v) (s + 3) z s2 k = f s2 k := fun u v z k => by rw [mj_rown (by omega), mj_rown (by omega), mj_rown (by omega)]
  refine mj_entry (by refine ⟨by decide +kernel, by decide, rfl, Nat.le_of_ble_eq_true rfl⟩) ?_
  show mj_W _ _ _ _ _ 0 [.ref s, .ref s2] [] _
  refine mj_aload_n (i := 1) (q := 1) dX3_become_0 rfl rfl rfl ?_
  refine mj_getr (q := 4) dX3_become_1 fl_X3_9 rfl rfl (by first | assumption | exact (mj_upn (by omega)).trans (by assumption) | exact (mj_upn (by omega)).trans ((mj_upn (by omega)).trans (by assumption)) | exact (mj_upn (by omega)).trans ((mj_upn (by omega)).trans ((mj_upn (by omega)).trans (by assumption)))) (by first | assumption | exact (mj_upn (by omega)).trans (by assumption) | exact (mj_upn (by omega)).trans ((mj_upn (by omega)).trans (by assumption)) | exact (mj_upn (by omega)).trans ((mj_upn (by omega)).trans ((mj_upn (by omega)).trans (by assumption)))) ?_
  refine mj_num1 (v := 0) (q := 5) rfl dX3_become_4 rfl ?_
  refine mj_aload_n (i := 0) (q := 6) dX3_become_5 rfl rfl rfl ?_
  refine mj_getr (q := 9) dX3_become_6 fl_X3_9 rfl rfl (by first | assumption | exact (mj_upn (by omega)).trans (by assumption) | exact (mj_upn (by omega)).trans ((mj_upn (by omega)).trans (by assumption)) | exact (mj_upn (by omega)).trans ((mj_upn (by omega)).trans ((mj_upn (by omega)).trans (by assumption)))) (by first | assumption | exact (mj_upn (by omega)).trans (by assumption) | exact (mj_upn (by omega)).trans ((mj_upn (by omega)).trans (by assumption)) | exact (mj_upn (by omega)).trans ((mj_upn (by omega)).trans ((mj_upn (by omega)).trans (by assumption)))) ?_
  refine mj_num1 (v := 0) (q := 10) rfl dX3_become_9 rfl ?_
  refine mj_num2 (v := 8) (q := 12) (by decide) dX3_become_10 rfl ?_
  refine mj_copyi (q := 15) dX3_become_12 ln_X3_21 (by assumption) (by assumption) (by decide) (by decide) (by decide) (by decide) (by decide) (Nat.le_of_ble_eq_true rfl) rfl ?_
  refine mj_aload_n (i := 1) (q := 16) dX3_become_15 rfl rfl rfl ?_
  refine mj_getr (q := 19) dX3_become_16 fl_X3_15 rfl rfl (by first | assumption | exact (mj_upn (by omega)).trans (by assumption) | exact (mj_upn (by omega)).trans ((mj_upn (by omega)).trans (by assumption)) | exact (mj_upn (by omega)).trans ((mj_upn (by omega)).trans ((mj_upn (by omega)).trans (by assumption)))) (by first | assumption | exact (mj_upn (by omega)).trans (by assumption) | exact (mj_upn (by omega)).trans ((mj_upn (by omega)).trans (by assumption)) | exact (mj_upn (by omega)).trans ((mj_upn (by omega)).trans ((mj_upn (by omega)).trans (by assumption)))) ?_
  refine mj_num1 (v := 0) (q := 20) rfl dX3_become_19 rfl ?_
  refine mj_aload_n (i := 0) (q := 21) dX3_become_20 rfl rfl rfl ?_
  refine mj_getr (q := 24) dX3_become_21 fl_X3_15 rfl rfl (by first | assumption | exact (mj_upn (by omega)).trans (by assumption) | exact (mj_upn (by omega)).trans ((mj_upn (by omega)).trans (by assumption)) | exact (mj_upn (by omega)).trans ((mj_upn (by omega)).trans ((mj_upn (by omega)).trans (by assumption)))) (by first | assumption | exact (mj_upn (by omega)).trans (by assumption) | exact (mj_upn (by omega)).trans ((mj_upn (by omega)).trans (by assumption)) | exact (mj_upn (by omega)).trans ((mj_upn (by omega)).trans ((mj_upn (by omega)).trans (by assumption)))) ?_
  refine mj_num1 (v := 0) (q := 25) rfl dX3_become_24 rfl ?_
  refine mj_num2 (v := 8) (q := 27) (by decide) dX3_become_25 rfl ?_
  refine mj_copyi (q := 30) dX3_become_27 ln_X3_21 (by assumption) (by assumption) (by decide) (by decide) (by decide) (by decide) (by decide) (Nat.le_of_ble_eq_true rfl) rfl ?_
  refine mj_aload_n (i := 1) (q := 31) dX3_become_30 rfl rfl rfl ?_
  refine mj_getr (q := 34) dX3_become_31 fl_X3_18 rfl rfl (by first | assumption | exact (mj_upn (by omega)).trans (by assumption) | exact (mj_upn (by omega)).trans ((mj_upn (by omega)).trans (by assumption)) | exact (mj_upn (by omega)).trans ((mj_upn (by omega)).trans ((mj_upn (by omega)).trans (by assumption)))) (by first | assumption | exact (mj_upn (by omega)).trans (by assumption) | exact (mj_upn (by omega)).trans ((mj_upn (by omega)).trans (by assumption)) | exact (mj_upn (by omega)).trans ((mj_upn (by omega)).trans ((mj_upn (by omega)).trans (by assumption)))) ?_
  refine mj_num1 (v := 0) (q := 35) rfl dX3_become_34 rfl ?_
  refine mj_aload_n (i := 0) (q := 36) dX3_become_35 rfl rfl rfl ?_
  refine mj_getr (q := 39) dX3_become_36 fl_X3_18 rfl rfl (by first | assumption | exact (mj_upn (by omega)).trans (by assumption) | exact (mj_upn (by omega)).trans ((mj_upn (by omega)).trans (by assumption)) | exact (mj_upn (by omega)).trans ((mj_upn (by omega)).trans ((mj_upn (by omega)).trans (by assumption)))) (by first | assumption | exact (mj_upn (by omega)).trans (by assumption) | exact (mj_upn (by omega)).trans ((mj_upn (by omega)).trans (by assumption)) | exact (mj_upn (by omega)).trans ((mj_upn (by omega)).trans ((mj_upn (by omega)).trans (by assumption)))) ?_
  refine mj_num1 (v := 0) (q := 40) rfl dX3_become_39 rfl ?_
  refine mj_num2 (v := 8) (q := 42) (by decide) dX3_become_40 rfl ?_
  refine mj_copyi (q := 45) dX3_become_42 ln_X3_21 (by assumption) (by assumption) (by decide) (by decide) (by decide) (by decide) (by decide) (Nat.le_of_ble_eq_true rfl) rfl ?_
  refine mj_aload_n (i := 0) (q := 46) dX3_become_45 rfl rfl rfl ?_
  refine mj_aload_n (i := 1) (q := 47) dX3_become_46 rfl rfl rfl ?_
  refine mj_getf (q := 50) dX3_become_47 fl_X3_27 rfl rfl (by first | assumption | exact (mj_upn (by omega)).trans (by assumption) | exact (mj_upn (by omega)).trans ((mj_upn (by omega)).trans (by assumption)) | exact (mj_upn (by omega)).trans ((mj_upn (by omega)).trans ((mj_upn (by omega)).trans (by assumption)))) ?_
  refine mj_top (y := nI x.1) (by rw [r1]; exact b1) ?_
  refine mj_putf (q := 53) dX3_become_50 fl_X3_27 rfl rfl (by first | assumption | exact (mj_upn (by omega)).trans (by assumption) | exact (mj_upn (by omega)).trans ((mj_upn (by omega)).trans (by assumption)) | exact (mj_upn (by omega)).trans ((mj_upn (by omega)).trans ((mj_upn (by omega)).trans (by assumption)))) rfl rfl rfl ?_
  refine mj_aload_n (i := 0) (q := 54) dX3_become_53 rfl rfl rfl ?_
  refine mj_aload_n (i := 1) (q := 55) dX3_become_54 rfl rfl rfl ?_
  refine mj_getf (q := 58) dX3_become_55 fl_X3_31 rfl rfl (by first | assumption | exact (mj_upn (by omega)).trans (by assumption) | exact (mj_upn (by omega)).trans ((mj_upn (by omega)).trans (by assumption)) | exact (mj_upn (by omega)).trans ((mj_upn (by omega)).trans ((mj_upn (by omega)).trans (by assumption)))) ?_
  refine mj_top (y := x.2.1) (by rw [mj_upn (by omega), r1]; exact b2) ?_
  refine mj_putf (q := 61) dX3_become_58 fl_X3_31 rfl rfl (by first | assumption | exact (mj_upn (by omega)).trans (by assumption) | exact (mj_upn (by omega)).trans ((mj_upn (by omega)).trans (by assumption)) | exact (mj_upn (by omega)).trans ((mj_upn (by omega)).trans ((mj_upn (by omega)).trans (by assumption)))) rfl (mj_bool b7).1 (mj_bool b7).2 ?_
  refine mj_aload_n (i := 0) (q := 62) dX3_become_61 rfl rfl rfl ?_
  refine mj_aload_n (i := 1) (q := 63) dX3_become_62 rfl rfl rfl ?_
  refine mj_getf (q := 66) dX3_become_63 fl_X3_35 rfl rfl (by first | assumption | exact (mj_upn (by omega)).trans (by assumption) | exact (mj_upn (by omega)).trans ((mj_upn (by omega)).trans (by assumption)) | exact (mj_upn (by omega)).trans ((mj_upn (by omega)).trans ((mj_upn (by omega)).trans (by assumption)))) ?_
  refine mj_top (y := x.2.2.1) (by rw [mj_upn (by omega), mj_upn (by omega), r1]; exact b3) ?_
  refine mj_putf (q := 69) dX3_become_66 fl_X3_35 rfl rfl (by first | assumption | exact (mj_upn (by omega)).trans (by assumption) | exact (mj_upn (by omega)).trans ((mj_upn (by omega)).trans (by assumption)) | exact (mj_upn (by omega)).trans ((mj_upn (by omega)).trans ((mj_upn (by omega)).trans (by assumption)))) rfl (mj_bool b8).1 (mj_bool b8).2 ?_
  refine mj_return dX3_become_69 rfl ⟨rfl, _, rfl, ?_, ?_⟩
  · refine ⟨b0, ?_, ?_, ?_, ?_, ?_, ?_, b7, b8⟩
    · simp [mj_up]
    · simp [mj_up]
    · simp [mj_up]
    · intro k hk
      rw [mj_upn (by omega), mj_upn (by omega), mj_upn (by omega), mj_rown (by omega), mj_rown (by omega), mj_rowe, mj_cpy8 hk]
      exact b4 k hk
    · intro k hk
      rw [mj_upn (by omega), mj_upn (by omega), mj_upn (by omega), mj_rown (by omega), mj_rowe, mj_cpy8 hk, mj_rown (by omega)]
      exact b5 k hk
    · intro k hk
      rw [mj_upn (by omega), mj_upn (by omega), mj_upn (by omega), mj_rowe, mj_cpy8 hk, mj_rown (by omega), mj_rown (by omega)]
      exact b6 k hk
  · intro a ha
    rw [mj_upr (by omega), mj_upr (by omega), mj_upr (by omega), mj_rown (by omega), mj_rown (by omega), mj_rown (by omega)]
