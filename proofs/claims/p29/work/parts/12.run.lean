/-! RUN, LIFT, WEATHER -/
def LRn (K : Nat → mj_K) (g : Nat → Nat → Option Nat) (r : Nat) : Prop := K r = (2, 2, 0) ∧ g r 0 = some (r + 1) ∧ LSn K g (r + 1)
abbrev rV : Type := sV × (Nat → Int32)
def RN (f : Nat → Nat → Int32) (r : Nat) (x : rV) : Prop := SN f (r + 1) x.1 ∧ (∀ k, 1 ≤ k → k < 18 → f r k = x.2 k) ∧ (x.2 15 = 0 ∨ x.2 15 = 1) ∧ (x.2 16 = 0 ∨ x.2 16 = 1) ∧ (x.2 17 = 0 ∨ x.2 17 = 1)
theorem RN.keep {f f1 : Nat → Nat → Int32} {r lo hi : Nat} {x : rV} (h : RN f r x) (hf : mj_Fr lo hi f f1) (hd : r + 5 ≤ lo ∨ hi ≤ r) : RN f1 r x :=
  ⟨h.1.keep hf (by omega), fun k h1 h2 => by rw [hf r (by omega)]; exact h.2.1 k h1 h2, h.2.2⟩
/-- the snow alone has changed -/
theorem RN.snow {f f1 : Nat → Nat → Int32} {r : Nat} {x : rV} {y : sV} (h : RN f r x) (hS : SN f1 (r + 1) y) (hf : mj_Fr (r + 1) (r + 5) f f1) : RN f1 r (y, x.2) :=
  ⟨hS, fun k h1 h2 => by rw [hf r (by omega)]; exact h.2.1 k h1 h2, h.2.2⟩
theorem RN.put {f : Nat → Nat → Int32} {r k0 : Nat} {v : Int32} {x : rV} (h : RN f r x) (hb : k0 < 15 ∨ v = 0 ∨ v = 1) : RN (mj_up f r k0 v) r (x.1, upd x.2 k0 v) := by
  obtain ⟨h1, h2, h3, h4, h5⟩ := h
  refine ⟨h1.keep (f1 := mj_up f r k0 v) (lo := r) (hi := r + 1) (mj_Fr.up mj_Fr.rf (by omega) (by omega)) (by omega), fun k z1 z2 => ?_, ?_, ?_, ?_⟩
  · have e := h2 k z1 z2
    by_cases hk : k = k0
    · subst hk; simp [mj_up, upd]
    · simp [mj_up, upd, hk, e]
  all_goals
    (show (if _ then _ else _) = _ ∨ (if _ then _ else _) = _
     split
     · rename_i z; rcases hb with hb | hb
       · omega
       · exact hb
     · assumption)
def LN (f : Nat → Nat → Int32) (l : Nat) (y : Nat → Int32) : Prop := (∀ k, k < 5 → f l k = y k) ∧ (y 2 = 0 ∨ y 2 = 1) ∧ (y 3 = 0 ∨ y 3 = 1)
theorem LN.keep {f f1 : Nat → Nat → Int32} {l lo hi : Nat} {y : Nat → Int32} (h : LN f l y) (hf : mj_Fr lo hi f f1) (hd : l + 1 ≤ lo ∨ hi ≤ l) : LN f1 l y := ⟨fun k hk => by rw [hf l (by omega)]; exact h.1 k hk, h.2⟩
theorem LN.put {f : Nat → Nat → Int32} {l k0 : Nat} {v : Int32} {y : Nat → Int32} (h : LN f l y) (hb : (k0 ≠ 2 ∧ k0 ≠ 3) ∨ v = 0 ∨ v = 1) : LN (mj_up f l k0 v) l (upd y k0 v) := by
  obtain ⟨h2, h3, h4⟩ := h
  refine ⟨fun k z2 => ?_, ?_, ?_⟩
  · have e := h2 k z2
    by_cases hk : k = k0
    · subst hk; simp [mj_up, upd]
    · simp [mj_up, upd, hk, e]
  all_goals
    (show (if _ then _ else _) = _ ∨ (if _ then _ else _) = _
     split
     · rename_i z; rcases hb with hb | hb
       · omega
       · exact hb
     · assumption)
def vMoving (y : Nat → Int32) : Bool := !(y 2 == 0) && y 3 == 0
def WN (f : Nat → Nat → Int32) (w : Nat) (W : Nat → Int32) : Prop := ∀ k, k < 5 → f w k = W k
theorem WN.keep {f f1 : Nat → Nat → Int32} {w lo hi : Nat} {W : Nat → Int32} (h : WN f w W) (hf : mj_Fr lo hi f f1) (hd : w + 1 ≤ lo ∨ hi ≤ w) : WN f1 w W := fun k hk => by rw [hf w (by omega)]; exact h k hk
def vSize (sh area : Int32) (x : sV) : Int32 := if sh = -1 then 0 else vDepth sh.toNatClampNeg x * area
/-! the steps (2) to (7) of an hour -/
def vWa (W : Nat → Int32) (asp temp : Int32) (x : sV) : sV := if 4 < W 2 ∧ (W 1 = 0 ∨ temp ≤ 0) then vDrift (W 2 - 4) (if asp = (W 3 + 2) % 4 then 1 else 0) (if asp = W 3 then 1 else 0) x else x
def vWb (W : Nat → Int32) (asp temp clock : Int32) (x : sV) : sV := if W 1 = 0 ∧ 10 ≤ clock ∧ clock ≤ 15 ∧ (asp = 2 ∨ 2 < temp) then vMelt 1 x else x
def vWc (temp : Int32) (x : sV) : sV := if temp ≤ -3 then vFreeze x else x
def vWd (W : Nat → Int32) (temp clock : Int32) (x : sV) : sV := if W 1 = 0 ∧ clock ≤ 5 ∧ temp ≤ -12 then vWeak x else x
def vWeather (W : Nat → Int32) (asp temp clock : Int32) (x : sV) : sV := vSettle (if clock = 12 then 1 else 0) (vWd W temp clock (vWc temp (vWb W asp temp clock (vWa W asp temp (vCome (W 1) temp x)))))

set_option maxHeartbeats 4000000 in
set_option maxRecDepth 100000 in
theorem s_isMoving {d l z : Nat} {n : Nat} {K : Nat → mj_K} {f : Nat → Nat → Int32} {g : Nat → Nat → Option Nat} {y : Nat → Int32} (hK : K l = (2, 0, z)) (hN : LN f l y) : mj_Ci m_X0_isMoving d [.ref l] (n, K, f, g) (fun r h1 => h1 = (n, K, f, g) ∧ r = if vMoving y = true then 1 else 0) := by
  have e2 : f l 2 = y 2 := hN.1 2 (by omega)
  have e3 : f l 3 = y 3 := hN.1 3 (by omega)
  refine mj_entry (by refine ⟨by decide +kernel, by decide, rfl, Nat.le_of_ble_eq_true rfl⟩) ?_
  show mj_W _ _ _ _ _ 0 [.ref l] [] _
  refine mj_aload_n (i := 0) (q := 1) dX0_isMoving_0 rfl rfl rfl ?_
  refine mj_getfv (q := 4) dX0_isMoving_1 fl_X0_16 rfl rfl (by assumption) (by assumption) ?_
  refine mj_if_eq (tgt := 18) (q := 7) dX0_isMoving_4 (by decide) rfl (fun c_4 => ?_) (fun c_4 => ?_)
  · refine mj_num1 (v := 0) (q := 19) rfl dX0_isMoving_18 rfl ?_
    exact mj_ireturn dX0_isMoving_19 ⟨_, rfl, rfl⟩ ⟨_, rfl, rfl, by simp [vMoving, c_4]⟩
  · refine mj_aload_n (i := 0) (q := 8) dX0_isMoving_7 rfl rfl rfl ?_
    refine mj_getfv (q := 11) dX0_isMoving_8 fl_X0_20 rfl rfl (by assumption) (by assumption) ?_
    refine mj_if_ne (tgt := 18) (q := 14) dX0_isMoving_11 (by decide) rfl (fun c_11 => ?_) (fun c_11 => ?_)
    · refine mj_num1 (v := 0) (q := 19) rfl dX0_isMoving_18 rfl ?_
      exact mj_ireturn dX0_isMoving_19 ⟨_, rfl, rfl⟩ ⟨_, rfl, rfl, by simp [vMoving, c_4, c_11]⟩
    · refine mj_num1 (v := 1) (q := 15) rfl dX0_isMoving_14 rfl ?_
      refine mj_goto (q := 19) dX0_isMoving_15 (by decide) ?_
      exact mj_ireturn dX0_isMoving_19 ⟨_, rfl, rfl⟩ ⟨_, rfl, rfl, by simp [vMoving, c_4, c_11]⟩
set_option maxHeartbeats 4000000 in
set_option maxRecDepth 100000 in
theorem s_liftBecome {d l l2 z z2 : Nat} {n : Nat} {K : Nat → mj_K} {f : Nat → Nat → Int32} {g : Nat → Nat → Option Nat} {y : Nat → Int32} (hK : K l = (2, 0, z)) (hK2 : K l2 = (2, 0, z2)) (hne : l ≠ l2) (hN : LN f l2 y) : mj_Cv m_X0_become d [.ref l, .ref l2] (n, K, f, g) (fun h1 => ∃ f1, h1 = (n, K, f1, g) ∧ LN f1 l y ∧ mj_Fr l (l + 1) f f1) := by
  have hne : ¬ l2 = l := fun z => hne z.symm
  have e0 : f l2 0 = y 0 := hN.1 0 (by omega)
  have e1 : f l2 1 = y 1 := hN.1 1 (by omega)
  have e2 : f l2 2 = y 2 := hN.1 2 (by omega)
  have e3 : f l2 3 = y 3 := hN.1 3 (by omega)
  have e4 : f l2 4 = y 4 := hN.1 4 (by omega)
  refine mj_entry (by refine ⟨by decide +kernel, by decide, rfl, Nat.le_of_ble_eq_true rfl⟩) ?_
  show mj_W _ _ _ _ _ 0 [.ref l, .ref l2] [] _
  refine mj_aload_n (i := 0) (q := 1) dX0_become_0 rfl rfl rfl ?_
  refine mj_aload_n (i := 1) (q := 2) dX0_become_1 rfl rfl rfl ?_
  refine mj_getf (q := 5) dX0_become_2 fl_X0_7 rfl rfl (by assumption) ?_
  refine mj_putf (q := 8) dX0_become_5 fl_X0_7 rfl rfl (by assumption) rfl rfl rfl ?_
  refine mj_aload_n (i := 0) (q := 9) dX0_become_8 rfl rfl rfl ?_
  refine mj_aload_n (i := 1) (q := 10) dX0_become_9 rfl rfl rfl ?_
  refine mj_getf (q := 13) dX0_become_10 fl_X0_13 rfl rfl (by assumption) ?_
  refine mj_putf (q := 16) dX0_become_13 fl_X0_13 rfl rfl (by assumption) rfl rfl rfl ?_
  refine mj_aload_n (i := 0) (q := 17) dX0_become_16 rfl rfl rfl ?_
  refine mj_aload_n (i := 1) (q := 18) dX0_become_17 rfl rfl rfl ?_
  refine mj_getf (q := 21) dX0_become_18 fl_X0_16 rfl rfl (by assumption) ?_
  refine mj_putf (q := 24) dX0_become_21 fl_X0_16 rfl rfl (by assumption) rfl (mj_bool (by simp [mj_up, hne, e2]; exact hN.2.1)).1 (mj_bool (by simp [mj_up, hne, e2]; exact hN.2.1)).2 ?_
  refine mj_aload_n (i := 0) (q := 25) dX0_become_24 rfl rfl rfl ?_
  refine mj_aload_n (i := 1) (q := 26) dX0_become_25 rfl rfl rfl ?_
  refine mj_getf (q := 29) dX0_become_26 fl_X0_20 rfl rfl (by assumption) ?_
  refine mj_putf (q := 32) dX0_become_29 fl_X0_20 rfl rfl (by assumption) rfl (mj_bool (by simp [mj_up, hne, e3]; exact hN.2.2)).1 (mj_bool (by simp [mj_up, hne, e3]; exact hN.2.2)).2 ?_
  refine mj_aload_n (i := 0) (q := 33) dX0_become_32 rfl rfl rfl ?_
  refine mj_aload_n (i := 1) (q := 34) dX0_become_33 rfl rfl rfl ?_
  refine mj_getf (q := 37) dX0_become_34 fl_X0_23 rfl rfl (by assumption) ?_
  refine mj_putf (q := 40) dX0_become_37 fl_X0_23 rfl rfl (by assumption) rfl rfl rfl ?_
  refine mj_return dX0_become_40 rfl ⟨rfl, _, rfl, ⟨?_, hN.2⟩, ?_⟩
  · intro k hk
    have : k = 0 ∨ k = 1 ∨ k = 2 ∨ k = 3 ∨ k = 4 := by omega
    rcases this with rfl | rfl | rfl | rfl | rfl <;> simp [mj_up, hne, e0, e1, e2, e3, e4]
  · repeat (first | exact mj_Fr.rf | exact (by assumption) | refine mj_Fr.up ?_ (by omega) (by omega))
set_option maxHeartbeats 4000000 in
set_option maxRecDepth 100000 in
theorem s_tell {d w z : Nat} {a1 a2 a3 a4 a5 : Int32} {n : Nat} {K : Nat → mj_K} {f : Nat → Nat → Int32} {g : Nat → Nat → Option Nat} (hK : K w = (2, 4, z)) : mj_Cv m_X4_tell d [.ref w, .int a1, .int a2, .int a3, .int a4, .int a5] (n, K, f, g) (fun h1 => ∃ f1, h1 = (n, K, f1, g) ∧ (∀ W : Nat → Int32, W 0 = a1 → W 1 = a2 → W 2 = a3 → W 3 = a4 → W 4 = a5 → WN f1 w W) ∧ mj_Fr w (w + 1) f f1) := by
  refine mj_entry (by refine ⟨by decide +kernel, by decide, rfl, Nat.le_of_ble_eq_true rfl⟩) ?_
  show mj_W _ _ _ _ _ 0 [.ref w, .int a1, .int a2, .int a3, .int a4, .int a5] [] _
  refine mj_aload_n (i := 0) (q := 1) dX4_tell_0 rfl rfl rfl ?_
  refine mj_iload_n (i := 1) (q := 2) dX4_tell_1 rfl rfl rfl ?_
  refine mj_putf (q := 5) dX4_tell_2 fl_X4_7 rfl rfl (by assumption) rfl rfl rfl ?_
  refine mj_aload_n (i := 0) (q := 6) dX4_tell_5 rfl rfl rfl ?_
  refine mj_iload_n (i := 2) (q := 7) dX4_tell_6 rfl rfl rfl ?_
  refine mj_putf (q := 10) dX4_tell_7 fl_X4_13 rfl rfl (by assumption) rfl rfl rfl ?_
  refine mj_aload_n (i := 0) (q := 11) dX4_tell_10 rfl rfl rfl ?_
  refine mj_iload_n (i := 3) (q := 12) dX4_tell_11 rfl rfl rfl ?_
  refine mj_putf (q := 15) dX4_tell_12 fl_X4_16 rfl rfl (by assumption) rfl rfl rfl ?_
  refine mj_aload_n (i := 0) (q := 16) dX4_tell_15 rfl rfl rfl ?_
  refine mj_iload (i := 4) (q := 18) dX4_tell_16 rfl rfl ?_
  refine mj_putf (q := 21) dX4_tell_18 fl_X4_19 rfl rfl (by assumption) rfl rfl rfl ?_
  refine mj_aload_n (i := 0) (q := 22) dX4_tell_21 rfl rfl rfl ?_
  refine mj_iload (i := 5) (q := 24) dX4_tell_22 rfl rfl ?_
  refine mj_putf (q := 27) dX4_tell_24 fl_X4_22 rfl rfl (by assumption) rfl rfl rfl ?_
  refine mj_return dX4_tell_27 rfl ⟨rfl, _, rfl, ?_, ?_⟩
  · intro W h0 h1 h2 h3 h4 k hk
    have : k = 0 ∨ k = 1 ∨ k = 2 ∨ k = 3 ∨ k = 4 := by omega
    rcases this with rfl | rfl | rfl | rfl | rfl <;> simp [mj_up, h0, h1, h2, h3, h4]
  · repeat (first | exact mj_Fr.rf | exact (by assumption) | refine mj_Fr.up ?_ (by omega) (by omega))
set_option maxHeartbeats 4000000 in
set_option maxRecDepth 100000 in
theorem s_runRisk {d r : Nat} {n : Nat} {K : Nat → mj_K} {f : Nat → Nat → Int32} {g : Nat → Nat → Option Nat} {x : rV} (hL : LRn K g r) (hR : RN f r x) : mj_Ci m_X2_risk (d + 3) [.ref r] (n, K, f, g) (fun v h1 => h1 = (n, K, f, g) ∧ v = vRisk (x.2 3) x.1) := by
  obtain ⟨kr, gr, hLs⟩ := hL
  have ks : K (r + 1) = (2, 3, 0) := hLs.1
  have e3 : f r 3 = x.2 3 := hR.2.1 3 (by omega) (by omega)
  refine mj_entry (by refine ⟨by decide +kernel, by decide, rfl, Nat.le_of_ble_eq_true rfl⟩) ?_
  show mj_W _ _ _ _ _ 0 [.ref r] [] _
  refine mj_aload_n (i := 0) (q := 1) dX2_risk_0 rfl rfl rfl ?_
  refine mj_getr (q := 4) dX2_risk_1 fl_X2_12 rfl rfl (by assumption) (by assumption) ?_
  refine mj_aload_n (i := 0) (q := 5) dX2_risk_4 rfl rfl rfl ?_
  refine mj_getfv (q := 8) dX2_risk_5 fl_X2_32 rfl rfl (by assumption) (by assumption) ?_
  refine mj_cV1i (K := m_X3_risk) (q := 11) dX2_risk_8 ln_X2_75 ok_X3_risk (Nat.le_of_ble_eq_true rfl) (by decide) (by assumption) rfl rfl (s_risk hLs hR.1) (fun r_8 h1 hq => ?_)
  obtain ⟨rfl, rfl⟩ := hq
  exact mj_ireturn dX2_risk_11 ⟨_, rfl, rfl⟩ ⟨_, rfl, ⟨rfl, rfl⟩⟩
set_option maxHeartbeats 4000000 in
set_option maxRecDepth 100000 in
theorem s_runShear {d r : Nat} {n : Nat} {K : Nat → mj_K} {f : Nat → Nat → Int32} {g : Nat → Nat → Option Nat} {x : rV} (hL : LRn K g r) (hR : RN f r x) : mj_Ci m_X2_shear (d + 2) [.ref r] (n, K, f, g) (fun v h1 => h1 = (n, K, f, g) ∧ v = vShear (x.2 3) x.1) := by
  obtain ⟨kr, gr, hLs⟩ := hL
  have ks : K (r + 1) = (2, 3, 0) := hLs.1
  have e3 : f r 3 = x.2 3 := hR.2.1 3 (by omega) (by omega)
  refine mj_entry (by refine ⟨by decide +kernel, by decide, rfl, Nat.le_of_ble_eq_true rfl⟩) ?_
  show mj_W _ _ _ _ _ 0 [.ref r] [] _
  refine mj_aload_n (i := 0) (q := 1) dX2_shear_0 rfl rfl rfl ?_
  refine mj_getr (q := 4) dX2_shear_1 fl_X2_12 rfl rfl (by assumption) (by assumption) ?_
  refine mj_aload_n (i := 0) (q := 5) dX2_shear_4 rfl rfl rfl ?_
  refine mj_getfv (q := 8) dX2_shear_5 fl_X2_32 rfl rfl (by assumption) (by assumption) ?_
  refine mj_cV1i (K := m_X3_shear) (q := 11) dX2_shear_8 ln_X2_79 ok_X3_shear (Nat.le_of_ble_eq_true rfl) (by decide) (by assumption) rfl rfl (s_shear hLs hR.1) (fun r_8 h1 hq => ?_)
  obtain ⟨rfl, rfl⟩ := hq
  exact mj_ireturn dX2_shear_11 ⟨_, rfl, rfl⟩ ⟨_, rfl, ⟨rfl, rfl⟩⟩
set_option maxHeartbeats 4000000 in
set_option maxRecDepth 100000 in
theorem s_runSize {d r : Nat} {sh : Int32} {n : Nat} {K : Nat → mj_K} {f : Nat → Nat → Int32} {g : Nat → Nat → Option Nat} {x : rV} (hL : LRn K g r) (hR : RN f r x) (hsh : sh = -1 ∨ ∃ k, k < x.1.1 ∧ sh = nI k) : mj_Ci m_X2_sizeFrom (d + 2) [.ref r, .int sh] (n, K, f, g) (fun v h1 => h1 = (n, K, f, g) ∧ v = vSize sh (x.2 5) x.1) := by
  obtain ⟨kr, gr, hLs⟩ := hL
  have ks : K (r + 1) = (2, 3, 0) := hLs.1
  have e5 : f r 5 = x.2 5 := hR.2.1 5 (by omega) (by omega)
  have h8 : x.1.1 ≤ 8 := hR.1.1
  refine mj_entry (by refine ⟨by decide +kernel, by decide, rfl, Nat.le_of_ble_eq_true rfl⟩) ?_
  show mj_W _ _ _ _ _ 0 [.ref r, .int sh] [] _
  refine mj_iload_n (i := 1) (q := 1) dX2_sizeFrom_0 rfl rfl rfl ?_
  refine mj_num1 (v := (-1)) (q := 2) rfl dX2_sizeFrom_1 rfl ?_
  refine mj_icmp_ne (tgt := 9) (q := 5) dX2_sizeFrom_2 (by decide) rfl (fun c_2 => ?_) (fun c_2 => ?_)
  · obtain ⟨k, hk, rfl⟩ := hsh.resolve_left c_2
    have hkc : (nI k).toNatClampNeg = k := nI_clamp (by omega)
    refine mj_aload_n (i := 0) (q := 10) dX2_sizeFrom_9 rfl rfl rfl ?_
    refine mj_getr (q := 13) dX2_sizeFrom_10 fl_X2_12 rfl rfl (by assumption) (by assumption) ?_
    refine mj_iload_n (i := 1) (q := 14) dX2_sizeFrom_13 rfl rfl rfl ?_
    refine mj_cV1i (K := m_X3_depthFrom) (q := 17) dX2_sizeFrom_14 ln_X2_82 ok_X3_depthFrom (Nat.le_of_ble_eq_true rfl) (by decide) (by assumption) rfl rfl (s_depthFrom hLs hR.1 (lo := k) (by omega)) (fun r_14 h1 hq => ?_)
    obtain ⟨rfl, rfl⟩ := hq
    refine mj_aload_n (i := 0) (q := 18) dX2_sizeFrom_17 rfl rfl rfl ?_
    refine mj_getfv (q := 21) dX2_sizeFrom_18 fl_X2_38 rfl rfl (by assumption) (by assumption) ?_
    refine mj_imul (q := 22) dX2_sizeFrom_21 rfl ?_
    exact mj_ireturn dX2_sizeFrom_22 ⟨_, rfl, rfl⟩ ⟨_, rfl, rfl, by simp only [vSize]; rw [if_neg c_2, hkc]⟩
  · refine mj_num1 (v := 0) (q := 6) rfl dX2_sizeFrom_5 rfl ?_
    refine mj_goto (q := 22) dX2_sizeFrom_6 (by decide) ?_
    exact mj_ireturn dX2_sizeFrom_22 ⟨_, rfl, rfl⟩ ⟨_, rfl, rfl, by simp only [vSize]; rw [if_pos c_2]⟩
set_option maxHeartbeats 4000000 in
set_option maxRecDepth 100000 in
theorem s_runBecome {d r r2 : Nat} {n : Nat} {K : Nat → mj_K} {f : Nat → Nat → Int32} {g : Nat → Nat → Option Nat} {x : rV} (hL : LRn K g r) (hL2 : LRn K g r2) (hap : r + 5 ≤ r2 ∨ r2 + 5 ≤ r) (hR : RN f r2 x) : mj_Cv m_X2_become (d + 2) [.ref r, .ref r2] (n, K, f, g) (fun h1 => ∃ f1, h1 = (n, K, f1, g) ∧ RN f1 r x ∧ mj_Fr r (r + 5) f f1) := by
  obtain ⟨kr, gr, hLs⟩ := hL
  have ks : K (r + 1) = (2, 3, 0) := hLs.1
  obtain ⟨kr2, gr2, hLs2⟩ := hL2
  have hne : ¬ r2 = r := by omega
  refine mj_entry (by refine ⟨by decide +kernel, by decide, rfl, Nat.le_of_ble_eq_true rfl⟩) ?_
  show mj_W _ _ _ _ _ 0 [.ref r, .ref r2] [] _
  refine mj_aload_n (i := 0) (q := 1) dX2_become_0 rfl rfl rfl ?_
  refine mj_getr (q := 4) dX2_become_1 fl_X2_12 rfl rfl (by assumption) (by assumption) ?_
  refine mj_aload_n (i := 1) (q := 5) dX2_become_4 rfl rfl rfl ?_
  refine mj_getr (q := 8) dX2_become_5 fl_X2_12 rfl rfl (by assumption) (by assumption) ?_
  refine mj_cV1v (K := m_X3_become) (q := 11) dX2_become_8 ln_X2_22 ok_X3_become (Nat.le_of_ble_eq_true rfl) (by decide) (by assumption) rfl rfl (s_snowBecome hLs hLs2 (by omega) hR.1) (fun h1 hq => ?_)
  obtain ⟨f1, rfl, hS1, hF1⟩ := hq
  have e1 : f1 r2 1 = x.2 1 := by rw [hF1 r2 (by omega)]; exact hR.2.1 1 (by omega) (by omega)
  have e2 : f1 r2 2 = x.2 2 := by rw [hF1 r2 (by omega)]; exact hR.2.1 2 (by omega) (by omega)
  have e3 : f1 r2 3 = x.2 3 := by rw [hF1 r2 (by omega)]; exact hR.2.1 3 (by omega) (by omega)
  have e4 : f1 r2 4 = x.2 4 := by rw [hF1 r2 (by omega)]; exact hR.2.1 4 (by omega) (by omega)
  have e5 : f1 r2 5 = x.2 5 := by rw [hF1 r2 (by omega)]; exact hR.2.1 5 (by omega) (by omega)
  have e6 : f1 r2 6 = x.2 6 := by rw [hF1 r2 (by omega)]; exact hR.2.1 6 (by omega) (by omega)
  have e7 : f1 r2 7 = x.2 7 := by rw [hF1 r2 (by omega)]; exact hR.2.1 7 (by omega) (by omega)
  have e8 : f1 r2 8 = x.2 8 := by rw [hF1 r2 (by omega)]; exact hR.2.1 8 (by omega) (by omega)
  have e9 : f1 r2 9 = x.2 9 := by rw [hF1 r2 (by omega)]; exact hR.2.1 9 (by omega) (by omega)
  have e10 : f1 r2 10 = x.2 10 := by rw [hF1 r2 (by omega)]; exact hR.2.1 10 (by omega) (by omega)
  have e11 : f1 r2 11 = x.2 11 := by rw [hF1 r2 (by omega)]; exact hR.2.1 11 (by omega) (by omega)
  have e12 : f1 r2 12 = x.2 12 := by rw [hF1 r2 (by omega)]; exact hR.2.1 12 (by omega) (by omega)
  have e13 : f1 r2 13 = x.2 13 := by rw [hF1 r2 (by omega)]; exact hR.2.1 13 (by omega) (by omega)
  have e14 : f1 r2 14 = x.2 14 := by rw [hF1 r2 (by omega)]; exact hR.2.1 14 (by omega) (by omega)
  have e15 : f1 r2 15 = x.2 15 := by rw [hF1 r2 (by omega)]; exact hR.2.1 15 (by omega) (by omega)
  have e16 : f1 r2 16 = x.2 16 := by rw [hF1 r2 (by omega)]; exact hR.2.1 16 (by omega) (by omega)
  have e17 : f1 r2 17 = x.2 17 := by rw [hF1 r2 (by omega)]; exact hR.2.1 17 (by omega) (by omega)
  refine mj_aload_n (i := 0) (q := 12) dX2_become_11 rfl rfl rfl ?_
  refine mj_aload_n (i := 1) (q := 13) dX2_become_12 rfl rfl rfl ?_
  refine mj_getf (q := 16) dX2_become_13 fl_X2_26 rfl rfl (by assumption) ?_
  refine mj_putf (q := 19) dX2_become_16 fl_X2_26 rfl rfl (by assumption) rfl rfl rfl ?_
  refine mj_aload_n (i := 0) (q := 20) dX2_become_19 rfl rfl rfl ?_
  refine mj_aload_n (i := 1) (q := 21) dX2_become_20 rfl rfl rfl ?_
  refine mj_getf (q := 24) dX2_become_21 fl_X2_29 rfl rfl (by assumption) ?_
  refine mj_putf (q := 27) dX2_become_24 fl_X2_29 rfl rfl (by assumption) rfl rfl rfl ?_
  refine mj_aload_n (i := 0) (q := 28) dX2_become_27 rfl rfl rfl ?_
  refine mj_aload_n (i := 1) (q := 29) dX2_become_28 rfl rfl rfl ?_
  refine mj_getf (q := 32) dX2_become_29 fl_X2_32 rfl rfl (by assumption) ?_
  refine mj_putf (q := 35) dX2_become_32 fl_X2_32 rfl rfl (by assumption) rfl rfl rfl ?_
  refine mj_aload_n (i := 0) (q := 36) dX2_become_35 rfl rfl rfl ?_
  refine mj_aload_n (i := 1) (q := 37) dX2_become_36 rfl rfl rfl ?_
  refine mj_getf (q := 40) dX2_become_37 fl_X2_35 rfl rfl (by assumption) ?_
  refine mj_putf (q := 43) dX2_become_40 fl_X2_35 rfl rfl (by assumption) rfl rfl rfl ?_
  refine mj_aload_n (i := 0) (q := 44) dX2_become_43 rfl rfl rfl ?_
  refine mj_aload_n (i := 1) (q := 45) dX2_become_44 rfl rfl rfl ?_
  refine mj_getf (q := 48) dX2_become_45 fl_X2_38 rfl rfl (by assumption) ?_
  refine mj_putf (q := 51) dX2_become_48 fl_X2_38 rfl rfl (by assumption) rfl rfl rfl ?_
  refine mj_aload_n (i := 0) (q := 52) dX2_become_51 rfl rfl rfl ?_
  refine mj_aload_n (i := 1) (q := 53) dX2_become_52 rfl rfl rfl ?_
  refine mj_getf (q := 56) dX2_become_53 fl_X2_41 rfl rfl (by assumption) ?_
  refine mj_putf (q := 59) dX2_become_56 fl_X2_41 rfl rfl (by assumption) rfl rfl rfl ?_
  refine mj_aload_n (i := 0) (q := 60) dX2_become_59 rfl rfl rfl ?_
  refine mj_aload_n (i := 1) (q := 61) dX2_become_60 rfl rfl rfl ?_
  refine mj_getf (q := 64) dX2_become_61 fl_X2_44 rfl rfl (by assumption) ?_
  refine mj_putf (q := 67) dX2_become_64 fl_X2_44 rfl rfl (by assumption) rfl rfl rfl ?_
  refine mj_aload_n (i := 0) (q := 68) dX2_become_67 rfl rfl rfl ?_
  refine mj_aload_n (i := 1) (q := 69) dX2_become_68 rfl rfl rfl ?_
  refine mj_getf (q := 72) dX2_become_69 fl_X2_47 rfl rfl (by assumption) ?_
  refine mj_putf (q := 75) dX2_become_72 fl_X2_47 rfl rfl (by assumption) rfl rfl rfl ?_
  refine mj_aload_n (i := 0) (q := 76) dX2_become_75 rfl rfl rfl ?_
  refine mj_aload_n (i := 1) (q := 77) dX2_become_76 rfl rfl rfl ?_
  refine mj_getf (q := 80) dX2_become_77 fl_X2_50 rfl rfl (by assumption) ?_
  refine mj_putf (q := 83) dX2_become_80 fl_X2_50 rfl rfl (by assumption) rfl rfl rfl ?_
  refine mj_aload_n (i := 0) (q := 84) dX2_become_83 rfl rfl rfl ?_
  refine mj_aload_n (i := 1) (q := 85) dX2_become_84 rfl rfl rfl ?_
  refine mj_getf (q := 88) dX2_become_85 fl_X2_53 rfl rfl (by assumption) ?_
  refine mj_putf (q := 91) dX2_become_88 fl_X2_53 rfl rfl (by assumption) rfl rfl rfl ?_
  refine mj_aload_n (i := 0) (q := 92) dX2_become_91 rfl rfl rfl ?_
  refine mj_aload_n (i := 1) (q := 93) dX2_become_92 rfl rfl rfl ?_
  refine mj_getf (q := 96) dX2_become_93 fl_X2_56 rfl rfl (by assumption) ?_
  refine mj_putf (q := 99) dX2_become_96 fl_X2_56 rfl rfl (by assumption) rfl rfl rfl ?_
  refine mj_aload_n (i := 0) (q := 100) dX2_become_99 rfl rfl rfl ?_
  refine mj_aload_n (i := 1) (q := 101) dX2_become_100 rfl rfl rfl ?_
  refine mj_getf (q := 104) dX2_become_101 fl_X2_18 rfl rfl (by assumption) ?_
  refine mj_putf (q := 107) dX2_become_104 fl_X2_18 rfl rfl (by assumption) rfl rfl rfl ?_
  refine mj_aload_n (i := 0) (q := 108) dX2_become_107 rfl rfl rfl ?_
  refine mj_aload_n (i := 1) (q := 109) dX2_become_108 rfl rfl rfl ?_
  refine mj_getf (q := 112) dX2_become_109 fl_X2_59 rfl rfl (by assumption) ?_
  refine mj_putf (q := 115) dX2_become_112 fl_X2_59 rfl rfl (by assumption) rfl rfl rfl ?_
  refine mj_aload_n (i := 0) (q := 116) dX2_become_115 rfl rfl rfl ?_
  refine mj_aload_n (i := 1) (q := 117) dX2_become_116 rfl rfl rfl ?_
  refine mj_getf (q := 120) dX2_become_117 fl_X2_62 rfl rfl (by assumption) ?_
  refine mj_putf (q := 123) dX2_become_120 fl_X2_62 rfl rfl (by assumption) rfl rfl rfl ?_
  refine mj_aload_n (i := 0) (q := 124) dX2_become_123 rfl rfl rfl ?_
  refine mj_aload_n (i := 1) (q := 125) dX2_become_124 rfl rfl rfl ?_
  refine mj_getf (q := 128) dX2_become_125 fl_X2_65 rfl rfl (by assumption) ?_
  refine mj_putf (q := 131) dX2_become_128 fl_X2_65 rfl rfl (by assumption) rfl (mj_bool (by simp [mj_up, hne, e15]; exact hR.2.2.1)).1 (mj_bool (by simp [mj_up, hne, e15]; exact hR.2.2.1)).2 ?_
  refine mj_aload_n (i := 0) (q := 132) dX2_become_131 rfl rfl rfl ?_
  refine mj_aload_n (i := 1) (q := 133) dX2_become_132 rfl rfl rfl ?_
  refine mj_getf (q := 136) dX2_become_133 fl_X2_69 rfl rfl (by assumption) ?_
  refine mj_putf (q := 139) dX2_become_136 fl_X2_69 rfl rfl (by assumption) rfl (mj_bool (by simp [mj_up, hne, e16]; exact hR.2.2.2.1)).1 (mj_bool (by simp [mj_up, hne, e16]; exact hR.2.2.2.1)).2 ?_
  refine mj_aload_n (i := 0) (q := 140) dX2_become_139 rfl rfl rfl ?_
  refine mj_aload_n (i := 1) (q := 141) dX2_become_140 rfl rfl rfl ?_
  refine mj_getf (q := 144) dX2_become_141 fl_X2_72 rfl rfl (by assumption) ?_
  refine mj_putf (q := 147) dX2_become_144 fl_X2_72 rfl rfl (by assumption) rfl (mj_bool (by simp [mj_up, hne, e17]; exact hR.2.2.2.2)).1 (mj_bool (by simp [mj_up, hne, e17]; exact hR.2.2.2.2)).2 ?_
  refine mj_return dX2_become_147 rfl ⟨rfl, _, rfl, ⟨?_, ?_, hR.2.2⟩, ?_⟩
  · refine hS1.keep (lo := r) (hi := r + 1) ?_ (by omega)
    repeat (first | exact mj_Fr.rf | exact (by assumption) | refine mj_Fr.up ?_ (by omega) (by omega))
  · intro k h1 h2
    have : k = 1 ∨ k = 2 ∨ k = 3 ∨ k = 4 ∨ k = 5 ∨ k = 6 ∨ k = 7 ∨ k = 8 ∨ k = 9 ∨ k = 10 ∨ k = 11 ∨ k = 12 ∨ k = 13 ∨ k = 14 ∨ k = 15 ∨ k = 16 ∨ k = 17 := by omega
    rcases this with rfl | rfl | rfl | rfl | rfl | rfl | rfl | rfl | rfl | rfl | rfl | rfl | rfl | rfl | rfl | rfl | rfl <;> simp [mj_up, hne, e1, e2, e3, e4, e5, e6, e7, e8, e9, e10, e11, e12, e13, e14, e15, e16, e17]
  · repeat (first | exact mj_Fr.wide hF1 (by omega) (by omega) | refine mj_Fr.up ?_ (by omega) (by omega))
set_option maxHeartbeats 4000000 in
set_option maxRecDepth 100000 in
theorem s_weatherSnow {d r wt z : Nat} {temp clock : Int32} {W : Nat → Int32} {n : Nat} {K : Nat → mj_K} {f : Nat → Nat → Int32} {g : Nat → Nat → Option Nat} {x : rV} (hL : LRn K g r) (hR : RN f r x) (hKw : K wt = (2, 4, z)) (hW : WN f wt W) (hap : wt < r ∨ r + 5 ≤ wt) : mj_Cv m_X2_weatherSnow (d + 4) [.ref r, .ref wt, .int temp, .int clock] (n, K, f, g) (fun h1 => ∃ f2, h1 = (n, K, f2, g) ∧ SN f2 (r + 1) (vWeather W (x.2 4) temp clock x.1) ∧ mj_Fr (r + 1) (r + 5) f f2) := by
  obtain ⟨kr, gr, hLs⟩ := hL
  have ks : K (r + 1) = (2, 3, 0) := hLs.1
  have main : ∀ dr : Int32, (dr = 0 ↔ ¬ W 1 = 0) → ∀ f1 : Nat → Nat → Int32, SN f1 (r + 1) (vCome (W 1) temp x.1) → mj_Fr (r + 1) (r + 5) f f1 → mj_W m_X2_weatherSnow (d + 4) 0 0 (fun v h1 => v = none ∧ ∃ f2, h1 = (n, K, f2, g) ∧ SN f2 (r + 1) (vWeather W (x.2 4) temp clock x.1) ∧ mj_Fr (r + 1) (r + 5) f f2) 26 [.ref r, .ref wt, .int temp, .int clock, .int dr] [] (n, K, f1, g) := by
    intro dr hdr
    have key166 : ∀ f1 : Nat → Nat → Int32, SN f1 (r + 1) (vWd W temp clock (vWc temp (vWb W (x.2 4) temp clock (vWa W (x.2 4) temp (vCome (W 1) temp x.1))))) → mj_Fr (r + 1) (r + 5) f f1 → mj_W m_X2_weatherSnow (d + 4) 0 0 (fun v h1 => v = none ∧ ∃ f2, h1 = (n, K, f2, g) ∧ SN f2 (r + 1) (vWeather W (x.2 4) temp clock x.1) ∧ mj_Fr (r + 1) (r + 5) f f2) 166 [.ref r, .ref wt, .int temp, .int clock, .int dr] [] (n, K, f1, g) := by
      intro f1 hS1 hF1
      refine mj_aload_n (i := 0) (q := 167) dX2_weatherSnow_166 rfl rfl rfl ?_
      refine mj_getr (q := 170) dX2_weatherSnow_167 fl_X2_12 rfl rfl (by assumption) (by assumption) ?_
      refine mj_iload_n (i := 3) (q := 171) dX2_weatherSnow_170 rfl rfl rfl ?_
      refine mj_num2 (v := 12) (q := 173) (by decide) dX2_weatherSnow_171 rfl ?_
      refine mj_icmp_ne (tgt := 180) (q := 176) dX2_weatherSnow_173 (by decide) rfl (fun c_173 => ?_) (fun c_173 => ?_)
      · refine mj_num1 (v := 0) (q := 181) rfl dX2_weatherSnow_180 rfl ?_
        refine mj_cV1v (K := m_X3_settle) (q := 184) dX2_weatherSnow_181 ln_X2_114 ok_X3_settle (Nat.le_of_ble_eq_true rfl) (by decide) (by assumption) rfl rfl (s_settle hLs hS1) (fun h1 hq => ?_)
        obtain ⟨f2, rfl, hS2, hF2⟩ := hq
        have hF3 := hF1.tr hF2
        have e : vWeather W (x.2 4) temp clock x.1 = vSettle 0 (vWd W temp clock (vWc temp (vWb W (x.2 4) temp clock (vWa W (x.2 4) temp (vCome (W 1) temp x.1))))) := by simp only [vWeather]; rw [if_neg c_173]
        exact mj_return dX2_weatherSnow_184 rfl ⟨rfl, _, rfl, by rw [e]; exact hS2, hF3⟩
      · refine mj_num1 (v := 1) (q := 177) rfl dX2_weatherSnow_176 rfl ?_
        refine mj_goto (q := 181) dX2_weatherSnow_177 (by decide) ?_
        refine mj_cV1v (K := m_X3_settle) (q := 184) dX2_weatherSnow_181 ln_X2_114 ok_X3_settle (Nat.le_of_ble_eq_true rfl) (by decide) (by assumption) rfl rfl (s_settle hLs hS1) (fun h1 hq => ?_)
        obtain ⟨f2, rfl, hS2, hF2⟩ := hq
        have hF3 := hF1.tr hF2
        have e : vWeather W (x.2 4) temp clock x.1 = vSettle 1 (vWd W temp clock (vWc temp (vWb W (x.2 4) temp clock (vWa W (x.2 4) temp (vCome (W 1) temp x.1))))) := by simp only [vWeather]; rw [if_pos c_173]
        exact mj_return dX2_weatherSnow_184 rfl ⟨rfl, _, rfl, by rw [e]; exact hS2, hF3⟩
    have key143 : ∀ f1 : Nat → Nat → Int32, SN f1 (r + 1) (vWc temp (vWb W (x.2 4) temp clock (vWa W (x.2 4) temp (vCome (W 1) temp x.1)))) → mj_Fr (r + 1) (r + 5) f f1 → mj_W m_X2_weatherSnow (d + 4) 0 0 (fun v h1 => v = none ∧ ∃ f2, h1 = (n, K, f2, g) ∧ SN f2 (r + 1) (vWeather W (x.2 4) temp clock x.1) ∧ mj_Fr (r + 1) (r + 5) f f2) 143 [.ref r, .ref wt, .int temp, .int clock, .int dr] [] (n, K, f1, g) := by
      intro f1 hS1 hF1
      have a4 : f1 r 4 = x.2 4 := by rw [hF1 r (by omega)]; exact hR.2.1 4 (by omega) (by omega)
      have w0 : f1 wt 0 = W 0 := by rw [hF1 wt (by omega)]; exact hW 0 (by omega)
      have w1 : f1 wt 1 = W 1 := by rw [hF1 wt (by omega)]; exact hW 1 (by omega)
      have w2 : f1 wt 2 = W 2 := by rw [hF1 wt (by omega)]; exact hW 2 (by omega)
      have w3 : f1 wt 3 = W 3 := by rw [hF1 wt (by omega)]; exact hW 3 (by omega)
      have w4 : f1 wt 4 = W 4 := by rw [hF1 wt (by omega)]; exact hW 4 (by omega)
      refine mj_iload (i := 4) (q := 145) dX2_weatherSnow_143 rfl rfl ?_
      refine mj_if_eq (tgt := 166) (q := 148) dX2_weatherSnow_145 (by decide) rfl (fun c_145 => ?_) (fun c_145 => ?_)
      · have e : vWd W temp clock (vWc temp (vWb W (x.2 4) temp clock (vWa W (x.2 4) temp (vCome (W 1) temp x.1)))) = (vWc temp (vWb W (x.2 4) temp clock (vWa W (x.2 4) temp (vCome (W 1) temp x.1)))) := by simp only [vWd]; rw [if_neg (fun z => hdr.mp c_145 z.1)]
        exact key166 _ (by rw [e]; exact hS1) hF1
      · refine mj_iload_n (i := 3) (q := 149) dX2_weatherSnow_148 rfl rfl rfl ?_
        refine mj_num1 (v := 5) (q := 150) rfl dX2_weatherSnow_149 rfl ?_
        refine mj_icmp_gt (tgt := 166) (q := 153) dX2_weatherSnow_150 (by decide) rfl (fun c_150 => ?_) (fun c_150 => ?_)
        · have e : vWd W temp clock (vWc temp (vWb W (x.2 4) temp clock (vWa W (x.2 4) temp (vCome (W 1) temp x.1)))) = (vWc temp (vWb W (x.2 4) temp clock (vWa W (x.2 4) temp (vCome (W 1) temp x.1)))) := by simp only [vWd]; rw [if_neg (fun z => absurd c_150 (Int32.not_lt.mpr z.2.1))]
          exact key166 _ (by rw [e]; exact hS1) hF1
        · refine mj_iload_n (i := 2) (q := 154) dX2_weatherSnow_153 rfl rfl rfl ?_
          refine mj_num2 (v := (-12)) (q := 156) (by decide) dX2_weatherSnow_154 rfl ?_
          refine mj_icmp_gt (tgt := 166) (q := 159) dX2_weatherSnow_156 (by decide) rfl (fun c_156 => ?_) (fun c_156 => ?_)
          · have e : vWd W temp clock (vWc temp (vWb W (x.2 4) temp clock (vWa W (x.2 4) temp (vCome (W 1) temp x.1)))) = (vWc temp (vWb W (x.2 4) temp clock (vWa W (x.2 4) temp (vCome (W 1) temp x.1)))) := by simp only [vWd]; rw [if_neg (fun z => absurd c_156 (Int32.not_lt.mpr z.2.2))]
            exact key166 _ (by rw [e]; exact hS1) hF1
          · refine mj_aload_n (i := 0) (q := 160) dX2_weatherSnow_159 rfl rfl rfl ?_
            refine mj_getr (q := 163) dX2_weatherSnow_160 fl_X2_12 rfl rfl (by assumption) (by assumption) ?_
            refine mj_cV0v (K := m_X3_growWeak) (q := 166) dX2_weatherSnow_163 ln_X2_111 ok_X3_growWeak (Nat.le_of_ble_eq_true rfl) (by decide) (by assumption) rfl rfl (s_growWeak hLs hS1) (fun h1 hq => ?_)
            obtain ⟨f2, rfl, hS2, hF2⟩ := hq
            have hF3 := hF1.tr hF2
            have e : vWd W temp clock (vWc temp (vWb W (x.2 4) temp clock (vWa W (x.2 4) temp (vCome (W 1) temp x.1)))) = vWeak (vWc temp (vWb W (x.2 4) temp clock (vWa W (x.2 4) temp (vCome (W 1) temp x.1)))) := by simp only [vWd]; rw [if_pos ⟨Decidable.byContradiction (fun z => c_145 (hdr.mpr z)), Int32.not_lt.mp c_150, Int32.not_lt.mp c_156⟩]
            exact key166 _ (by rw [e]; exact hS2) hF3
    have key130 : ∀ f1 : Nat → Nat → Int32, SN f1 (r + 1) (vWb W (x.2 4) temp clock (vWa W (x.2 4) temp (vCome (W 1) temp x.1))) → mj_Fr (r + 1) (r + 5) f f1 → mj_W m_X2_weatherSnow (d + 4) 0 0 (fun v h1 => v = none ∧ ∃ f2, h1 = (n, K, f2, g) ∧ SN f2 (r + 1) (vWeather W (x.2 4) temp clock x.1) ∧ mj_Fr (r + 1) (r + 5) f f2) 130 [.ref r, .ref wt, .int temp, .int clock, .int dr] [] (n, K, f1, g) := by
      intro f1 hS1 hF1
      have a4 : f1 r 4 = x.2 4 := by rw [hF1 r (by omega)]; exact hR.2.1 4 (by omega) (by omega)
      have w0 : f1 wt 0 = W 0 := by rw [hF1 wt (by omega)]; exact hW 0 (by omega)
      have w1 : f1 wt 1 = W 1 := by rw [hF1 wt (by omega)]; exact hW 1 (by omega)
      have w2 : f1 wt 2 = W 2 := by rw [hF1 wt (by omega)]; exact hW 2 (by omega)
      have w3 : f1 wt 3 = W 3 := by rw [hF1 wt (by omega)]; exact hW 3 (by omega)
      have w4 : f1 wt 4 = W 4 := by rw [hF1 wt (by omega)]; exact hW 4 (by omega)
      refine mj_iload_n (i := 2) (q := 131) dX2_weatherSnow_130 rfl rfl rfl ?_
      refine mj_num2 (v := (-3)) (q := 133) (by decide) dX2_weatherSnow_131 rfl ?_
      refine mj_icmp_gt (tgt := 143) (q := 136) dX2_weatherSnow_133 (by decide) rfl (fun c_133 => ?_) (fun c_133 => ?_)
      · have e : vWc temp (vWb W (x.2 4) temp clock (vWa W (x.2 4) temp (vCome (W 1) temp x.1))) = (vWb W (x.2 4) temp clock (vWa W (x.2 4) temp (vCome (W 1) temp x.1))) := by simp only [vWc]; rw [if_neg (Int32.not_le.mpr c_133)]
        exact key143 _ (by rw [e]; exact hS1) hF1
      · refine mj_aload_n (i := 0) (q := 137) dX2_weatherSnow_136 rfl rfl rfl ?_
        refine mj_getr (q := 140) dX2_weatherSnow_137 fl_X2_12 rfl rfl (by assumption) (by assumption) ?_
        refine mj_cV0v (K := m_X3_freeze) (q := 143) dX2_weatherSnow_140 ln_X2_108 ok_X3_freeze (Nat.le_of_ble_eq_true rfl) (by decide) (by assumption) rfl rfl (s_freeze hLs hS1) (fun h1 hq => ?_)
        obtain ⟨f2, rfl, hS2, hF2⟩ := hq
        have hF3 := hF1.tr hF2
        have e : vWc temp (vWb W (x.2 4) temp clock (vWa W (x.2 4) temp (vCome (W 1) temp x.1))) = vFreeze (vWb W (x.2 4) temp clock (vWa W (x.2 4) temp (vCome (W 1) temp x.1))) := by simp only [vWc]; rw [if_pos (Int32.not_lt.mp c_133)]
        exact key143 _ (by rw [e]; exact hS2) hF3
    have key92 : ∀ f1 : Nat → Nat → Int32, SN f1 (r + 1) (vWa W (x.2 4) temp (vCome (W 1) temp x.1)) → mj_Fr (r + 1) (r + 5) f f1 → mj_W m_X2_weatherSnow (d + 4) 0 0 (fun v h1 => v = none ∧ ∃ f2, h1 = (n, K, f2, g) ∧ SN f2 (r + 1) (vWeather W (x.2 4) temp clock x.1) ∧ mj_Fr (r + 1) (r + 5) f f2) 92 [.ref r, .ref wt, .int temp, .int clock, .int dr] [] (n, K, f1, g) := by
      intro f1 hS1 hF1
      have a4 : f1 r 4 = x.2 4 := by rw [hF1 r (by omega)]; exact hR.2.1 4 (by omega) (by omega)
      have w0 : f1 wt 0 = W 0 := by rw [hF1 wt (by omega)]; exact hW 0 (by omega)
      have w1 : f1 wt 1 = W 1 := by rw [hF1 wt (by omega)]; exact hW 1 (by omega)
      have w2 : f1 wt 2 = W 2 := by rw [hF1 wt (by omega)]; exact hW 2 (by omega)
      have w3 : f1 wt 3 = W 3 := by rw [hF1 wt (by omega)]; exact hW 3 (by omega)
      have w4 : f1 wt 4 = W 4 := by rw [hF1 wt (by omega)]; exact hW 4 (by omega)
      refine mj_iload (i := 4) (q := 94) dX2_weatherSnow_92 rfl rfl ?_
      refine mj_if_eq (tgt := 130) (q := 97) dX2_weatherSnow_94 (by decide) rfl (fun c_94 => ?_) (fun c_94 => ?_)
      · have e : vWb W (x.2 4) temp clock (vWa W (x.2 4) temp (vCome (W 1) temp x.1)) = (vWa W (x.2 4) temp (vCome (W 1) temp x.1)) := by simp only [vWb]; rw [if_neg (fun z => hdr.mp c_94 z.1)]
        exact key130 _ (by rw [e]; exact hS1) hF1
      · refine mj_iload_n (i := 3) (q := 98) dX2_weatherSnow_97 rfl rfl rfl ?_
        refine mj_num2 (v := 10) (q := 100) (by decide) dX2_weatherSnow_98 rfl ?_
        refine mj_icmp_lt (tgt := 130) (q := 103) dX2_weatherSnow_100 (by decide) rfl (fun c_100 => ?_) (fun c_100 => ?_)
        · have e : vWb W (x.2 4) temp clock (vWa W (x.2 4) temp (vCome (W 1) temp x.1)) = (vWa W (x.2 4) temp (vCome (W 1) temp x.1)) := by simp only [vWb]; rw [if_neg (fun z => absurd c_100 (Int32.not_lt.mpr z.2.1))]
          exact key130 _ (by rw [e]; exact hS1) hF1
        · refine mj_iload_n (i := 3) (q := 104) dX2_weatherSnow_103 rfl rfl rfl ?_
          refine mj_num2 (v := 15) (q := 106) (by decide) dX2_weatherSnow_104 rfl ?_
          refine mj_icmp_gt (tgt := 130) (q := 109) dX2_weatherSnow_106 (by decide) rfl (fun c_106 => ?_) (fun c_106 => ?_)
          · have e : vWb W (x.2 4) temp clock (vWa W (x.2 4) temp (vCome (W 1) temp x.1)) = (vWa W (x.2 4) temp (vCome (W 1) temp x.1)) := by simp only [vWb]; rw [if_neg (fun z => absurd c_106 (Int32.not_lt.mpr z.2.2.1))]
            exact key130 _ (by rw [e]; exact hS1) hF1
          · refine mj_aload_n (i := 0) (q := 110) dX2_weatherSnow_109 rfl rfl rfl ?_
            refine mj_getfv (q := 113) dX2_weatherSnow_110 fl_X2_35 rfl rfl (by assumption) (by assumption) ?_
            refine mj_num1 (v := 2) (q := 114) rfl dX2_weatherSnow_113 rfl ?_
            refine mj_icmp_eq (tgt := 122) (q := 117) dX2_weatherSnow_114 (by decide) rfl (fun c_114 => ?_) (fun c_114 => ?_)
            · refine mj_aload_n (i := 0) (q := 123) dX2_weatherSnow_122 rfl rfl rfl ?_
              refine mj_getr (q := 126) dX2_weatherSnow_123 fl_X2_12 rfl rfl (by assumption) (by assumption) ?_
              refine mj_num1 (v := 1) (q := 127) rfl dX2_weatherSnow_126 rfl ?_
              refine mj_cV1v (K := m_X3_melt) (q := 130) dX2_weatherSnow_127 ln_X2_104 ok_X3_melt (Nat.le_of_ble_eq_true rfl) (by decide) (by assumption) rfl rfl (s_melt hLs hS1) (fun h1 hq => ?_)
              obtain ⟨f2, rfl, hS2, hF2⟩ := hq
              have hF3 := hF1.tr hF2
              have e : vWb W (x.2 4) temp clock (vWa W (x.2 4) temp (vCome (W 1) temp x.1)) = vMelt 1 (vWa W (x.2 4) temp (vCome (W 1) temp x.1)) := by simp only [vWb]; rw [if_pos ⟨Decidable.byContradiction (fun z => c_94 (hdr.mpr z)), Int32.not_lt.mp c_100, Int32.not_lt.mp c_106, Or.inl c_114⟩]
              exact key130 _ (by rw [e]; exact hS2) hF3
            · refine mj_iload_n (i := 2) (q := 118) dX2_weatherSnow_117 rfl rfl rfl ?_
              refine mj_num1 (v := 2) (q := 119) rfl dX2_weatherSnow_118 rfl ?_
              refine mj_icmp_le (tgt := 130) (q := 122) dX2_weatherSnow_119 (by decide) rfl (fun c_119 => ?_) (fun c_119 => ?_)
              · have e : vWb W (x.2 4) temp clock (vWa W (x.2 4) temp (vCome (W 1) temp x.1)) = (vWa W (x.2 4) temp (vCome (W 1) temp x.1)) := by simp only [vWb]; rw [if_neg (fun z => z.2.2.2.elim c_114 (fun y => absurd c_119 (Int32.not_le.mpr y)))]
                exact key130 _ (by rw [e]; exact hS1) hF1
              · refine mj_aload_n (i := 0) (q := 123) dX2_weatherSnow_122 rfl rfl rfl ?_
                refine mj_getr (q := 126) dX2_weatherSnow_123 fl_X2_12 rfl rfl (by assumption) (by assumption) ?_
                refine mj_num1 (v := 1) (q := 127) rfl dX2_weatherSnow_126 rfl ?_
                refine mj_cV1v (K := m_X3_melt) (q := 130) dX2_weatherSnow_127 ln_X2_104 ok_X3_melt (Nat.le_of_ble_eq_true rfl) (by decide) (by assumption) rfl rfl (s_melt hLs hS1) (fun h1 hq => ?_)
                obtain ⟨f2, rfl, hS2, hF2⟩ := hq
                have hF3 := hF1.tr hF2
                have e : vWb W (x.2 4) temp clock (vWa W (x.2 4) temp (vCome (W 1) temp x.1)) = vMelt 1 (vWa W (x.2 4) temp (vCome (W 1) temp x.1)) := by simp only [vWb]; rw [if_pos ⟨Decidable.byContradiction (fun z => c_94 (hdr.mpr z)), Int32.not_lt.mp c_100, Int32.not_lt.mp c_106, Or.inr (Int32.not_le.mp c_119)⟩]
                exact key130 _ (by rw [e]; exact hS2) hF3
    have key26 : ∀ f1 : Nat → Nat → Int32, SN f1 (r + 1) (vCome (W 1) temp x.1) → mj_Fr (r + 1) (r + 5) f f1 → mj_W m_X2_weatherSnow (d + 4) 0 0 (fun v h1 => v = none ∧ ∃ f2, h1 = (n, K, f2, g) ∧ SN f2 (r + 1) (vWeather W (x.2 4) temp clock x.1) ∧ mj_Fr (r + 1) (r + 5) f f2) 26 [.ref r, .ref wt, .int temp, .int clock, .int dr] [] (n, K, f1, g) := by
      intro f1 hS1 hF1
      have a4 : f1 r 4 = x.2 4 := by rw [hF1 r (by omega)]; exact hR.2.1 4 (by omega) (by omega)
      have w0 : f1 wt 0 = W 0 := by rw [hF1 wt (by omega)]; exact hW 0 (by omega)
      have w1 : f1 wt 1 = W 1 := by rw [hF1 wt (by omega)]; exact hW 1 (by omega)
      have w2 : f1 wt 2 = W 2 := by rw [hF1 wt (by omega)]; exact hW 2 (by omega)
      have w3 : f1 wt 3 = W 3 := by rw [hF1 wt (by omega)]; exact hW 3 (by omega)
      have w4 : f1 wt 4 = W 4 := by rw [hF1 wt (by omega)]; exact hW 4 (by omega)
      refine mj_aload_n (i := 1) (q := 27) dX2_weatherSnow_26 rfl rfl rfl ?_
      refine mj_getfv (q := 30) dX2_weatherSnow_27 fl_X2_94 rfl rfl (by assumption) (by assumption) ?_
      refine mj_num1 (v := 4) (q := 31) rfl dX2_weatherSnow_30 rfl ?_
      refine mj_icmp_le (tgt := 92) (q := 34) dX2_weatherSnow_31 (by decide) rfl (fun c_31 => ?_) (fun c_31 => ?_)
      · have e : vWa W (x.2 4) temp (vCome (W 1) temp x.1) = (vCome (W 1) temp x.1) := by simp only [vWa]; rw [if_neg (fun z => absurd c_31 (Int32.not_le.mpr z.1))]
        exact key92 _ (by rw [e]; exact hS1) hF1
      · refine mj_iload (i := 4) (q := 36) dX2_weatherSnow_34 rfl rfl ?_
        refine mj_if_ne (tgt := 43) (q := 39) dX2_weatherSnow_36 (by decide) rfl (fun c_36 => ?_) (fun c_36 => ?_)
        · refine mj_aload_n (i := 0) (q := 44) dX2_weatherSnow_43 rfl rfl rfl ?_
          refine mj_getr (q := 47) dX2_weatherSnow_44 fl_X2_12 rfl rfl (by assumption) (by assumption) ?_
          refine mj_aload_n (i := 1) (q := 48) dX2_weatherSnow_47 rfl rfl rfl ?_
          refine mj_getfv (q := 51) dX2_weatherSnow_48 fl_X2_94 rfl rfl (by assumption) (by assumption) ?_
          refine mj_num1 (v := 4) (q := 52) rfl dX2_weatherSnow_51 rfl ?_
          refine mj_isub (q := 53) dX2_weatherSnow_52 rfl ?_
          refine mj_aload_n (i := 0) (q := 54) dX2_weatherSnow_53 rfl rfl rfl ?_
          refine mj_getfv (q := 57) dX2_weatherSnow_54 fl_X2_35 rfl rfl (by assumption) (by assumption) ?_
          refine mj_aload_n (i := 1) (q := 58) dX2_weatherSnow_57 rfl rfl rfl ?_
          refine mj_getfv (q := 61) dX2_weatherSnow_58 fl_X2_97 rfl rfl (by assumption) (by assumption) ?_
          refine mj_num1 (v := 2) (q := 62) rfl dX2_weatherSnow_61 rfl ?_
          refine mj_iadd (q := 63) dX2_weatherSnow_62 rfl ?_
          refine mj_num1 (v := 4) (q := 64) rfl dX2_weatherSnow_63 rfl ?_
          refine mj_irem (q := 65) (by decide) dX2_weatherSnow_64 rfl ?_
          refine mj_icmp_ne (tgt := 72) (q := 68) dX2_weatherSnow_65 (by decide) rfl (fun c_65 => ?_) (fun c_65 => ?_)
          · refine mj_num1 (v := 0) (q := 73) rfl dX2_weatherSnow_72 rfl ?_
            refine mj_aload_n (i := 0) (q := 74) dX2_weatherSnow_73 rfl rfl rfl ?_
            refine mj_getfv (q := 77) dX2_weatherSnow_74 fl_X2_35 rfl rfl (by assumption) (by assumption) ?_
            refine mj_aload_n (i := 1) (q := 78) dX2_weatherSnow_77 rfl rfl rfl ?_
            refine mj_getfv (q := 81) dX2_weatherSnow_78 fl_X2_97 rfl rfl (by assumption) (by assumption) ?_
            refine mj_icmp_ne (tgt := 88) (q := 84) dX2_weatherSnow_81 (by decide) rfl (fun c_81 => ?_) (fun c_81 => ?_)
            · refine mj_num1 (v := 0) (q := 89) rfl dX2_weatherSnow_88 rfl ?_
              refine mj_cV3v (K := m_X3_drift) (q := 92) dX2_weatherSnow_89 ln_X2_100 ok_X3_drift (Nat.le_of_ble_eq_true rfl) (by decide) (by assumption) rfl rfl (s_drift hLs hS1) (fun h1 hq => ?_)
              obtain ⟨f2, rfl, hS2, hF2⟩ := hq
              have hF3 := hF1.tr hF2
              have e : vWa W (x.2 4) temp (vCome (W 1) temp x.1) = vDrift (W 2 - 4) 0 0 (vCome (W 1) temp x.1) := by simp only [vWa]; rw [if_pos ⟨Int32.not_le.mp c_31, Or.inl (Decidable.byContradiction (fun z => c_36 (hdr.mpr z)))⟩, if_neg c_65, if_neg c_81]
              exact key92 _ (by rw [e]; exact hS2) hF3
            · refine mj_num1 (v := 1) (q := 85) rfl dX2_weatherSnow_84 rfl ?_
              refine mj_goto (q := 89) dX2_weatherSnow_85 (by decide) ?_
              refine mj_cV3v (K := m_X3_drift) (q := 92) dX2_weatherSnow_89 ln_X2_100 ok_X3_drift (Nat.le_of_ble_eq_true rfl) (by decide) (by assumption) rfl rfl (s_drift hLs hS1) (fun h1 hq => ?_)
              obtain ⟨f2, rfl, hS2, hF2⟩ := hq
              have hF3 := hF1.tr hF2
              have e : vWa W (x.2 4) temp (vCome (W 1) temp x.1) = vDrift (W 2 - 4) 0 1 (vCome (W 1) temp x.1) := by simp only [vWa]; rw [if_pos ⟨Int32.not_le.mp c_31, Or.inl (Decidable.byContradiction (fun z => c_36 (hdr.mpr z)))⟩, if_neg c_65, if_pos c_81]
              exact key92 _ (by rw [e]; exact hS2) hF3
          · refine mj_num1 (v := 1) (q := 69) rfl dX2_weatherSnow_68 rfl ?_
            refine mj_goto (q := 73) dX2_weatherSnow_69 (by decide) ?_
            refine mj_aload_n (i := 0) (q := 74) dX2_weatherSnow_73 rfl rfl rfl ?_
            refine mj_getfv (q := 77) dX2_weatherSnow_74 fl_X2_35 rfl rfl (by assumption) (by assumption) ?_
            refine mj_aload_n (i := 1) (q := 78) dX2_weatherSnow_77 rfl rfl rfl ?_
            refine mj_getfv (q := 81) dX2_weatherSnow_78 fl_X2_97 rfl rfl (by assumption) (by assumption) ?_
            refine mj_icmp_ne (tgt := 88) (q := 84) dX2_weatherSnow_81 (by decide) rfl (fun c_81 => ?_) (fun c_81 => ?_)
            · refine mj_num1 (v := 0) (q := 89) rfl dX2_weatherSnow_88 rfl ?_
              refine mj_cV3v (K := m_X3_drift) (q := 92) dX2_weatherSnow_89 ln_X2_100 ok_X3_drift (Nat.le_of_ble_eq_true rfl) (by decide) (by assumption) rfl rfl (s_drift hLs hS1) (fun h1 hq => ?_)
              obtain ⟨f2, rfl, hS2, hF2⟩ := hq
              have hF3 := hF1.tr hF2
              have e : vWa W (x.2 4) temp (vCome (W 1) temp x.1) = vDrift (W 2 - 4) 1 0 (vCome (W 1) temp x.1) := by simp only [vWa]; rw [if_pos ⟨Int32.not_le.mp c_31, Or.inl (Decidable.byContradiction (fun z => c_36 (hdr.mpr z)))⟩, if_pos c_65, if_neg c_81]
              exact key92 _ (by rw [e]; exact hS2) hF3
            · refine mj_num1 (v := 1) (q := 85) rfl dX2_weatherSnow_84 rfl ?_
              refine mj_goto (q := 89) dX2_weatherSnow_85 (by decide) ?_
              refine mj_cV3v (K := m_X3_drift) (q := 92) dX2_weatherSnow_89 ln_X2_100 ok_X3_drift (Nat.le_of_ble_eq_true rfl) (by decide) (by assumption) rfl rfl (s_drift hLs hS1) (fun h1 hq => ?_)
              obtain ⟨f2, rfl, hS2, hF2⟩ := hq
              have hF3 := hF1.tr hF2
              have e : vWa W (x.2 4) temp (vCome (W 1) temp x.1) = vDrift (W 2 - 4) 1 1 (vCome (W 1) temp x.1) := by simp only [vWa]; rw [if_pos ⟨Int32.not_le.mp c_31, Or.inl (Decidable.byContradiction (fun z => c_36 (hdr.mpr z)))⟩, if_pos c_65, if_pos c_81]
              exact key92 _ (by rw [e]; exact hS2) hF3
        · refine mj_iload_n (i := 2) (q := 40) dX2_weatherSnow_39 rfl rfl rfl ?_
          refine mj_if_gt (tgt := 92) (q := 43) dX2_weatherSnow_40 (by decide) rfl (fun c_40 => ?_) (fun c_40 => ?_)
          · have e : vWa W (x.2 4) temp (vCome (W 1) temp x.1) = (vCome (W 1) temp x.1) := by simp only [vWa]; rw [if_neg (fun z => z.2.elim (hdr.mp c_36) (fun y => absurd c_40 (Int32.not_lt.mpr y)))]
            exact key92 _ (by rw [e]; exact hS1) hF1
          · refine mj_aload_n (i := 0) (q := 44) dX2_weatherSnow_43 rfl rfl rfl ?_
            refine mj_getr (q := 47) dX2_weatherSnow_44 fl_X2_12 rfl rfl (by assumption) (by assumption) ?_
            refine mj_aload_n (i := 1) (q := 48) dX2_weatherSnow_47 rfl rfl rfl ?_
            refine mj_getfv (q := 51) dX2_weatherSnow_48 fl_X2_94 rfl rfl (by assumption) (by assumption) ?_
            refine mj_num1 (v := 4) (q := 52) rfl dX2_weatherSnow_51 rfl ?_
            refine mj_isub (q := 53) dX2_weatherSnow_52 rfl ?_
            refine mj_aload_n (i := 0) (q := 54) dX2_weatherSnow_53 rfl rfl rfl ?_
            refine mj_getfv (q := 57) dX2_weatherSnow_54 fl_X2_35 rfl rfl (by assumption) (by assumption) ?_
            refine mj_aload_n (i := 1) (q := 58) dX2_weatherSnow_57 rfl rfl rfl ?_
            refine mj_getfv (q := 61) dX2_weatherSnow_58 fl_X2_97 rfl rfl (by assumption) (by assumption) ?_
            refine mj_num1 (v := 2) (q := 62) rfl dX2_weatherSnow_61 rfl ?_
            refine mj_iadd (q := 63) dX2_weatherSnow_62 rfl ?_
            refine mj_num1 (v := 4) (q := 64) rfl dX2_weatherSnow_63 rfl ?_
            refine mj_irem (q := 65) (by decide) dX2_weatherSnow_64 rfl ?_
            refine mj_icmp_ne (tgt := 72) (q := 68) dX2_weatherSnow_65 (by decide) rfl (fun c_65 => ?_) (fun c_65 => ?_)
            · refine mj_num1 (v := 0) (q := 73) rfl dX2_weatherSnow_72 rfl ?_
              refine mj_aload_n (i := 0) (q := 74) dX2_weatherSnow_73 rfl rfl rfl ?_
              refine mj_getfv (q := 77) dX2_weatherSnow_74 fl_X2_35 rfl rfl (by assumption) (by assumption) ?_
              refine mj_aload_n (i := 1) (q := 78) dX2_weatherSnow_77 rfl rfl rfl ?_
              refine mj_getfv (q := 81) dX2_weatherSnow_78 fl_X2_97 rfl rfl (by assumption) (by assumption) ?_
              refine mj_icmp_ne (tgt := 88) (q := 84) dX2_weatherSnow_81 (by decide) rfl (fun c_81 => ?_) (fun c_81 => ?_)
              · refine mj_num1 (v := 0) (q := 89) rfl dX2_weatherSnow_88 rfl ?_
                refine mj_cV3v (K := m_X3_drift) (q := 92) dX2_weatherSnow_89 ln_X2_100 ok_X3_drift (Nat.le_of_ble_eq_true rfl) (by decide) (by assumption) rfl rfl (s_drift hLs hS1) (fun h1 hq => ?_)
                obtain ⟨f2, rfl, hS2, hF2⟩ := hq
                have hF3 := hF1.tr hF2
                have e : vWa W (x.2 4) temp (vCome (W 1) temp x.1) = vDrift (W 2 - 4) 0 0 (vCome (W 1) temp x.1) := by simp only [vWa]; rw [if_pos ⟨Int32.not_le.mp c_31, Or.inr (Int32.not_lt.mp c_40)⟩, if_neg c_65, if_neg c_81]
                exact key92 _ (by rw [e]; exact hS2) hF3
              · refine mj_num1 (v := 1) (q := 85) rfl dX2_weatherSnow_84 rfl ?_
                refine mj_goto (q := 89) dX2_weatherSnow_85 (by decide) ?_
                refine mj_cV3v (K := m_X3_drift) (q := 92) dX2_weatherSnow_89 ln_X2_100 ok_X3_drift (Nat.le_of_ble_eq_true rfl) (by decide) (by assumption) rfl rfl (s_drift hLs hS1) (fun h1 hq => ?_)
                obtain ⟨f2, rfl, hS2, hF2⟩ := hq
                have hF3 := hF1.tr hF2
                have e : vWa W (x.2 4) temp (vCome (W 1) temp x.1) = vDrift (W 2 - 4) 0 1 (vCome (W 1) temp x.1) := by simp only [vWa]; rw [if_pos ⟨Int32.not_le.mp c_31, Or.inr (Int32.not_lt.mp c_40)⟩, if_neg c_65, if_pos c_81]
                exact key92 _ (by rw [e]; exact hS2) hF3
            · refine mj_num1 (v := 1) (q := 69) rfl dX2_weatherSnow_68 rfl ?_
              refine mj_goto (q := 73) dX2_weatherSnow_69 (by decide) ?_
              refine mj_aload_n (i := 0) (q := 74) dX2_weatherSnow_73 rfl rfl rfl ?_
              refine mj_getfv (q := 77) dX2_weatherSnow_74 fl_X2_35 rfl rfl (by assumption) (by assumption) ?_
              refine mj_aload_n (i := 1) (q := 78) dX2_weatherSnow_77 rfl rfl rfl ?_
              refine mj_getfv (q := 81) dX2_weatherSnow_78 fl_X2_97 rfl rfl (by assumption) (by assumption) ?_
              refine mj_icmp_ne (tgt := 88) (q := 84) dX2_weatherSnow_81 (by decide) rfl (fun c_81 => ?_) (fun c_81 => ?_)
              · refine mj_num1 (v := 0) (q := 89) rfl dX2_weatherSnow_88 rfl ?_
                refine mj_cV3v (K := m_X3_drift) (q := 92) dX2_weatherSnow_89 ln_X2_100 ok_X3_drift (Nat.le_of_ble_eq_true rfl) (by decide) (by assumption) rfl rfl (s_drift hLs hS1) (fun h1 hq => ?_)
                obtain ⟨f2, rfl, hS2, hF2⟩ := hq
                have hF3 := hF1.tr hF2
                have e : vWa W (x.2 4) temp (vCome (W 1) temp x.1) = vDrift (W 2 - 4) 1 0 (vCome (W 1) temp x.1) := by simp only [vWa]; rw [if_pos ⟨Int32.not_le.mp c_31, Or.inr (Int32.not_lt.mp c_40)⟩, if_pos c_65, if_neg c_81]
                exact key92 _ (by rw [e]; exact hS2) hF3
              · refine mj_num1 (v := 1) (q := 85) rfl dX2_weatherSnow_84 rfl ?_
                refine mj_goto (q := 89) dX2_weatherSnow_85 (by decide) ?_
                refine mj_cV3v (K := m_X3_drift) (q := 92) dX2_weatherSnow_89 ln_X2_100 ok_X3_drift (Nat.le_of_ble_eq_true rfl) (by decide) (by assumption) rfl rfl (s_drift hLs hS1) (fun h1 hq => ?_)
                obtain ⟨f2, rfl, hS2, hF2⟩ := hq
                have hF3 := hF1.tr hF2
                have e : vWa W (x.2 4) temp (vCome (W 1) temp x.1) = vDrift (W 2 - 4) 1 1 (vCome (W 1) temp x.1) := by simp only [vWa]; rw [if_pos ⟨Int32.not_le.mp c_31, Or.inr (Int32.not_lt.mp c_40)⟩, if_pos c_65, if_pos c_81]
                exact key92 _ (by rw [e]; exact hS2) hF3
    exact key26
  have w1 : f wt 1 = W 1 := hW 1 (by omega)
  refine mj_entry (by refine ⟨by decide +kernel, by decide, rfl, Nat.le_of_ble_eq_true rfl⟩) ?_
  show mj_W _ _ _ _ _ 0 [.ref r, .ref wt, .int temp, .int clock, .null] [] _
  refine mj_aload_n (i := 1) (q := 1) dX2_weatherSnow_0 rfl rfl rfl ?_
  refine mj_getfv (q := 4) dX2_weatherSnow_1 fl_X2_85 rfl rfl (by assumption) (by assumption) ?_
  refine mj_if_ne (tgt := 11) (q := 7) dX2_weatherSnow_4 (by decide) rfl (fun c_4 => ?_) (fun c_4 => ?_)
  · refine mj_num1 (v := 0) (q := 12) rfl dX2_weatherSnow_11 rfl ?_
    refine mj_istore (i := 4) (q := 14) dX2_weatherSnow_12 rfl (by decide) rfl ?_
    dsimp only [List.set]
    refine mj_aload_n (i := 0) (q := 15) dX2_weatherSnow_14 rfl rfl rfl ?_
    refine mj_getr (q := 18) dX2_weatherSnow_15 fl_X2_12 rfl rfl (by assumption) (by assumption) ?_
    refine mj_aload_n (i := 1) (q := 19) dX2_weatherSnow_18 rfl rfl rfl ?_
    refine mj_getfv (q := 22) dX2_weatherSnow_19 fl_X2_85 rfl rfl (by assumption) (by assumption) ?_
    refine mj_iload_n (i := 2) (q := 23) dX2_weatherSnow_22 rfl rfl rfl ?_
    refine mj_cV2v (K := m_X3_comeDown) (q := 26) dX2_weatherSnow_23 ln_X2_90 ok_X3_comeDown (Nat.le_of_ble_eq_true rfl) (by decide) (by assumption) rfl rfl (s_comeDown hLs hR.1) (fun h1 hq => ?_)
    obtain ⟨f1, rfl, hS1, hF1⟩ := hq
    exact main 0 (by simp [c_4]) _ hS1 hF1
  · refine mj_num1 (v := 1) (q := 8) rfl dX2_weatherSnow_7 rfl ?_
    refine mj_goto (q := 12) dX2_weatherSnow_8 (by decide) ?_
    refine mj_istore (i := 4) (q := 14) dX2_weatherSnow_12 rfl (by decide) rfl ?_
    dsimp only [List.set]
    refine mj_aload_n (i := 0) (q := 15) dX2_weatherSnow_14 rfl rfl rfl ?_
    refine mj_getr (q := 18) dX2_weatherSnow_15 fl_X2_12 rfl rfl (by assumption) (by assumption) ?_
    refine mj_aload_n (i := 1) (q := 19) dX2_weatherSnow_18 rfl rfl rfl ?_
    refine mj_getfv (q := 22) dX2_weatherSnow_19 fl_X2_85 rfl rfl (by assumption) (by assumption) ?_
    refine mj_iload_n (i := 2) (q := 23) dX2_weatherSnow_22 rfl rfl rfl ?_
    refine mj_cV2v (K := m_X3_comeDown) (q := 26) dX2_weatherSnow_23 ln_X2_90 ok_X3_comeDown (Nat.le_of_ble_eq_true rfl) (by decide) (by assumption) rfl rfl (s_comeDown hLs hR.1) (fun h1 hq => ?_)
    obtain ⟨f1, rfl, hS1, hF1⟩ := hq
    exact main 1 (by simp [c_4]) _ hS1 hF1
