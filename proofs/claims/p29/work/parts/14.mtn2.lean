/-! THE MOUNTAIN, second part: what changes it -/
theorem mj_row_row {α : Type} {f : Nat → α} {a : Nat} {v w : α} : mj_row (mj_row f a v) a w = mj_row f a w := by funext b; unfold mj_row; split <;> rfl
theorem mj_row_self {α : Type} {f : Nat → α} {a : Nat} : mj_row f a (f a) = f := by funext b; unfold mj_row; split <;> simp_all
theorem upd_upd {f : Nat → Int32} {a : Nat} {v w : Int32} : upd (upd f a v) a w = upd f a w := by funext b; unfold upd; split <;> rfl
theorem upd_self {f : Nat → Int32} {a : Nat} : upd f a (f a) = f := by funext b; unfold upd; split <;> simp_all
theorem upd_e {f : Nat → Int32} {a : Nat} {v : Int32} : upd f a v a = v := by simp [upd]
theorem upd_n {f : Nat → Int32} {a b : Nat} {v : Int32} (h : b ≠ a) : upd f a v b = f b := by simp [upd, h]
theorem mj_Fr.big {m lo hi : Nat} {f f1 : Nat → Nat → Int32} (h : mj_Fr lo hi f f1) (h1 : m ≤ lo) (h2 : hi ≤ m + 47) : mj_Fr m (m + 47) f f1 := h.wide h1 h2
theorem vShear_le {s : Int32} {x : sV} (h : x.1 ≤ 8) : vShear s x = -1 ∨ ∃ k, k < x.1 ∧ vShear s x = nI k := vShear_rng s x

set_option maxHeartbeats 4000000 in
set_option maxRecDepth 100000 in
theorem s_slideOn {d m i : Nat} {n : Nat} {K : Nat → mj_K} {f : Nat → Nat → Int32} {g : Nat → Nat → Option Nat} {y : mV} (hL : LMn K g m) (hN : MN f m y) (hi : i < y.2.1) : mj_Ci m_X1_slideOn (d + 3) [.ref m, .ref (m + 7 + 5 * i)] (n, K, f, g) (fun r h1 => ∃ f1, h1 = (n, K, f1, g) ∧ MN f1 m (y.1, y.2.1, vSlideMu y.2.2.1 (vSlideSize (y.2.2.2.2 i)), y.2.2.2.1, mj_row y.2.2.2.2 i (vSlideRun (y.2.2.2.2 i))) ∧ mj_Fr m (m + 47) f f1 ∧ r = vSlideSize (y.2.2.2.2 i)) := by
  have hL2 := hL
  have hN2 := hN
  obtain ⟨km, gm0, gm1, km1, km6, hLl, hLr⟩ := hL
  obtain ⟨lc, rc, mu, ls, rs⟩ := y
  obtain ⟨n1, n2, n3, n4, n5, n6, n7, n8⟩ := hN
  dsimp only at n1 n2 n3 n4 n5 n6 n7 n8
  have hi : i < rc := hi
  have u10 : f m 10 = mu 10 := n5 10 (by omega) (by omega)
  have u11 : f m 11 = mu 11 := n5 11 (by omega) (by omega)
  have hg_i : g (m + 6) i = some (m + 7 + 5 * i) := (hLr i (by omega)).1
  have hL_i := (hLr i (by omega)).2
  have kr_i : K (m + 7 + 5 * i) = (2, 2, 0) := hL_i.1
  have gr_i : g (m + 7 + 5 * i) 0 = some ((m + 7 + 5 * i) + 1) := hL_i.2.1
  have ks_i : K ((m + 7 + 5 * i) + 1) = (2, 3, 0) := hL_i.2.2.1
  have hR_i := n7 i (by omega)
  have e9_i : f (m + 7 + 5 * i) 9 = (rs i).2 9 := hR_i.2.1 9 (by omega) (by omega)
  refine mj_entry (by refine ⟨by decide +kernel, by decide, rfl, Nat.le_of_ble_eq_true rfl⟩) ?_
  show mj_W _ _ _ _ _ 0 [.ref m, .ref (m + 7 + 5 * i), .null, .null] [] _
  refine mj_aload_n (i := 1) (q := 1) dX1_slideOn_0 rfl rfl rfl ?_
  refine mj_cV0i (K := m_X2_shear) (q := 4) dX1_slideOn_1 ln_X1_138 ok_X2_shear (Nat.le_of_ble_eq_true rfl) (by decide) (by assumption) rfl rfl (s_runShear hL_i hR_i) (fun r_1 h1 hq => ?_)
  obtain ⟨rfl, rfl⟩ := hq
  refine mj_istore_n (i := 2) (q := 5) dX1_slideOn_4 rfl rfl (by decide) rfl ?_
  dsimp only [List.set]
  refine mj_aload_n (i := 1) (q := 6) dX1_slideOn_5 rfl rfl rfl ?_
  refine mj_iload_n (i := 2) (q := 7) dX1_slideOn_6 rfl rfl rfl ?_
  refine mj_cV1i (K := m_X2_sizeFrom) (q := 10) dX1_slideOn_7 ln_X1_141 ok_X2_sizeFrom (Nat.le_of_ble_eq_true rfl) (by decide) (by assumption) rfl rfl (s_runSize hL_i hR_i (vShear_rng _ _)) (fun r_7 h1 hq => ?_)
  obtain ⟨rfl, rfl⟩ := hq
  refine mj_istore_n (i := 3) (q := 11) dX1_slideOn_10 rfl rfl (by decide) rfl ?_
  dsimp only [List.set]
  refine mj_aload_n (i := 1) (q := 12) dX1_slideOn_11 rfl rfl rfl ?_
  refine mj_getr (q := 15) dX1_slideOn_12 fl_X1_89 rfl rfl (by assumption) (by assumption) ?_
  refine mj_iload_n (i := 2) (q := 16) dX1_slideOn_15 rfl rfl rfl ?_
  refine mj_cV1v (K := m_X3_dropFrom) (q := 19) dX1_slideOn_16 ln_X1_145 ok_X3_dropFrom (Nat.le_of_ble_eq_true rfl) (by decide) (by assumption) rfl rfl (s_dropFrom hL_i.2.2 hR_i.1 (vShear_rng _ _)) (fun h1 hq => ?_)
  obtain ⟨f1, rfl, hS1, hF1⟩ := hq
  have e9 : f1 (m + 7 + 5 * i) 9 = (rs i).2 9 := by rw [hF1 (m + 7 + 5 * i) (by omega)]; exact e9_i
  have v10 : f1 m 10 = mu 10 := by rw [hF1 m (by omega)]; exact u10
  have v11 : f1 m 11 = mu 11 := by rw [hF1 m (by omega)]; exact u11
  have hR1 := ((((hR_i.snow hS1 hF1).put (k0 := 12) (v := -1) (by omega)).put (k0 := 17) (v := 0) (Or.inr (Or.inl rfl))).put (k0 := 9) (v := (rs i).2 9 + 1) (by omega))
  have hFr : mj_Fr (m + 7 + 5 * i) (m + 12 + 5 * i) f (mj_up (mj_up (mj_up f1 (m + 7 + 5 * i) 12 (-1)) (m + 7 + 5 * i) 17 0) (m + 7 + 5 * i) 9 ((rs i).2 9 + 1)) := by
    repeat (first | exact hF1.wide (by omega) (by omega) | refine mj_Fr.up ?_ (by omega) (by omega))
  have hM1 := (hN2.run hi hR1 hFr (by simp [upd])).put (k0 := 10) (v := mu 10 + 1) (by omega)
  refine mj_aload_n (i := 1) (q := 20) dX1_slideOn_19 rfl rfl rfl ?_
  refine mj_num1 (v := (-1)) (q := 21) rfl dX1_slideOn_20 rfl ?_
  refine mj_putf (q := 24) dX1_slideOn_21 fl_X1_102 rfl rfl (by assumption) rfl rfl rfl ?_
  refine mj_aload_n (i := 1) (q := 25) dX1_slideOn_24 rfl rfl rfl ?_
  refine mj_num1 (v := 0) (q := 26) rfl dX1_slideOn_25 rfl ?_
  refine mj_putf (q := 29) dX1_slideOn_26 fl_X1_121 rfl rfl (by assumption) rfl rfl rfl ?_
  refine mj_aload_n (i := 1) (q := 30) dX1_slideOn_29 rfl rfl rfl ?_
  refine mj_dup (q := 31) rfl dX1_slideOn_30 rfl ?_
  refine mj_getf (q := 34) dX1_slideOn_31 fl_X1_149 rfl rfl (by assumption) ?_
  refine mj_top (y := (rs i).2 9) (by simp [mj_up, e9]) ?_
  refine mj_num1 (v := 1) (q := 35) rfl dX1_slideOn_34 rfl ?_
  refine mj_iadd (q := 36) dX1_slideOn_35 rfl ?_
  refine mj_putf (q := 39) dX1_slideOn_36 fl_X1_149 rfl rfl (by assumption) rfl rfl rfl ?_
  refine mj_aload_n (i := 0) (q := 40) dX1_slideOn_39 rfl rfl rfl ?_
  refine mj_dup (q := 41) rfl dX1_slideOn_40 rfl ?_
  refine mj_getf (q := 44) dX1_slideOn_41 fl_X1_57 rfl rfl (by assumption) ?_
  refine mj_top (y := mu 10) (by rw [mj_upn (by omega), mj_upn (by omega), mj_upn (by omega)]; exact v10) ?_
  refine mj_num1 (v := 1) (q := 45) rfl dX1_slideOn_44 rfl ?_
  refine mj_iadd (q := 46) dX1_slideOn_45 rfl ?_
  refine mj_putf (q := 49) dX1_slideOn_46 fl_X1_57 rfl rfl (by assumption) rfl rfl rfl ?_
  refine mj_iload_n (i := 3) (q := 50) dX1_slideOn_49 rfl rfl rfl ?_
  refine mj_num3 (v := 900) (q := 53) (by decide) dX1_slideOn_50 rfl ?_
  refine mj_icmp_lt (tgt := 66) (q := 56) dX1_slideOn_53 (by decide) rfl (fun c_53 => ?_) (fun c_53 => ?_)
  · refine mj_iload_n (i := 3) (q := 67) dX1_slideOn_66 rfl rfl rfl ?_
    refine mj_ireturn dX1_slideOn_67 ⟨_, rfl, rfl⟩ ⟨_, rfl, _, rfl, ?_, ?_, rfl⟩
    · have e : vSlideMu mu (vSlideSize (rs i)) = upd mu 10 (mu 10 + 1) := by unfold vSlideMu; rw [if_pos (show vSlideSize (rs i) < 900 from c_53)]
      show MN _ m (lc, rc, vSlideMu mu (vSlideSize (rs i)), ls, mj_row rs i (vSlideRun (rs i)))
      rw [e]; exact hM1
    · repeat (first | exact hFr.wide (by omega) (by omega) | refine mj_Fr.up ?_ (by omega) (by omega))
  · refine mj_aload_n (i := 0) (q := 57) dX1_slideOn_56 rfl rfl rfl ?_
    refine mj_dup (q := 58) rfl dX1_slideOn_57 rfl ?_
    refine mj_getf (q := 61) dX1_slideOn_58 fl_X1_60 rfl rfl (by assumption) ?_
    refine mj_top (y := mu 11) (by simp [mj_up, v11, show ¬ m = m + 7 + 5 * i by omega]) ?_
    refine mj_num1 (v := 1) (q := 62) rfl dX1_slideOn_61 rfl ?_
    refine mj_iadd (q := 63) dX1_slideOn_62 rfl ?_
    refine mj_putf (q := 66) dX1_slideOn_63 fl_X1_60 rfl rfl (by assumption) rfl rfl rfl ?_
    refine mj_iload_n (i := 3) (q := 67) dX1_slideOn_66 rfl rfl rfl ?_
    refine mj_ireturn dX1_slideOn_67 ⟨_, rfl, rfl⟩ ⟨_, rfl, _, rfl, ?_, ?_, rfl⟩
    · have e : vSlideMu mu (vSlideSize (rs i)) = upd (upd mu 10 (mu 10 + 1)) 11 (mu 11 + 1) := by unfold vSlideMu; rw [if_neg (show ¬ vSlideSize (rs i) < 900 from c_53)]
      show MN _ m (lc, rc, vSlideMu mu (vSlideSize (rs i)), ls, mj_row rs i (vSlideRun (rs i)))
      rw [e]; exact hM1.put (by omega)
    · repeat (first | exact hFr.wide (by omega) (by omega) | refine mj_Fr.up ?_ (by omega) (by omega))
def vHold (wind : Int32) (z : Nat → Int32) : Nat → Int32 := if z 1 < wind then upd z 3 1 else z
def vHoldN (wind : Int32) (ls : Nat → Nat → Int32) : Nat → Nat → Nat → Int32
  | 0 => ls
  | n + 1 => mj_row (vHoldN wind ls n) n (vHold wind (ls n))
theorem vHoldN_ge {wind : Int32} {ls : Nat → Nat → Int32} : ∀ {n k : Nat}, n ≤ k → vHoldN wind ls n k = ls k
  | 0, _, _ => rfl
  | n + 1, k, h => by rw [vHoldN, mj_rown (by omega), vHoldN_ge (by omega)]
def vGunless (rs : Nat → rV) : Nat → Nat → rV
  | 0 => rs
  | n + 1 => mj_row (vGunless rs n) n ((rs n).1, upd (rs n).2 6 0)
theorem vGunless_ge {rs : Nat → rV} : ∀ {n k : Nat}, n ≤ k → vGunless rs n k = rs k
  | 0, _, _ => rfl
  | n + 1, k, h => by rw [vGunless, mj_rown (by omega), vGunless_ge (by omega)]
set_option maxHeartbeats 4000000 in
set_option maxRecDepth 100000 in
theorem s_holdLifts {d m : Nat} {wind : Int32} {n : Nat} {K : Nat → mj_K} {f : Nat → Nat → Int32} {g : Nat → Nat → Option Nat} {y : mV} (hL : LMn K g m) (hN : MN f m y) : mj_Cv m_X1_holdLifts d [.ref m, .int wind] (n, K, f, g) (fun h1 => ∃ f1, h1 = (n, K, f1, g) ∧ MN f1 m (y.1, y.2.1, y.2.2.1, vHoldN wind y.2.2.2.1 y.1, y.2.2.2.2) ∧ mj_Fr m (m + 47) f f1) := by
  have hL2 := hL
  have hN2 := hN
  obtain ⟨km, gm0, gm1, km1, km6, hLl, hLr⟩ := hL
  obtain ⟨lc, rc, mu, ls, rs⟩ := y
  obtain ⟨n1, n2, n3, n4, n5, n6, n7, n8⟩ := hN
  dsimp only at n1 n2 n3 n4 n5 n6 n7 n8
  have key : ∀ (j i : Nat) (f1 : Nat → Nat → Int32), i + j = lc → MN f1 m (lc, rc, mu, vHoldN wind ls i, rs) → mj_Fr m (m + 47) f f1 → mj_W m_X1_holdLifts d 0 0 (fun v h1 => v = none ∧ ∃ f1, h1 = (n, K, f1, g) ∧ MN f1 m (lc, rc, mu, vHoldN wind ls lc, rs) ∧ mj_Fr m (m + 47) f f1) 2 [.ref m, .int wind, .int (nI i)] [] (n, K, f1, g) := by
    intro j
    induction j with
    | zero =>
      intro i f1 hi hM hF
      have hi : i = lc := by omega
      subst hi
      have o3 : f1 m 2 = nI i := hM.2.2.1
      refine mj_iload_n (i := 2) (q := 3) dX1_holdLifts_2 rfl rfl rfl ?_
      refine mj_aload_n (i := 0) (q := 4) dX1_holdLifts_3 rfl rfl rfl ?_
      refine mj_getfv (q := 7) dX1_holdLifts_4 fl_X1_35 rfl rfl (by assumption) (by assumption) ?_
      refine mj_icmp_ge (tgt := 39) (q := 10) dX1_holdLifts_7 (by decide) rfl (fun c_7 => ?_) (fun c_7 => absurd (Int32.le_refl _) c_7)
      exact mj_return dX1_holdLifts_39 rfl ⟨rfl, ⟨_, rfl, hM, hF⟩⟩
    | succ j ih =>
      intro i f1 hi hM hF
      have o3 : f1 m 2 = nI lc := hM.2.2.1
      have ev : vHoldN wind ls i i = ls i := vHoldN_ge (Nat.le_refl i)
      have o6 : ∀ k, k < lc → LN f1 (m + 2 + k) (vHoldN wind ls i k) := hM.2.2.2.2.2.1
      have hl_i : g (m + 1) i = some (m + 2 + i) := (hLl i (by omega)).1
      have kl_i : K (m + 2 + i) = (2, 0, 0) := (hLl i (by omega)).2
      have hN_i := o6 i (by omega)
      rw [ev] at hN_i
      have l1 : f1 (m + 2 + i) 1 = ls i 1 := hN_i.1 1 (by omega)
      refine mj_iload_n (i := 2) (q := 3) dX1_holdLifts_2 rfl rfl rfl ?_
      refine mj_aload_n (i := 0) (q := 4) dX1_holdLifts_3 rfl rfl rfl ?_
      refine mj_getfv (q := 7) dX1_holdLifts_4 fl_X1_35 rfl rfl (by assumption) (by assumption) ?_
      refine mj_icmp_ge (tgt := 39) (q := 10) dX1_holdLifts_7 (by decide) rfl (fun c_7 => absurd c_7 (nI_ge (a := i) (b := lc) (by omega) (by omega))) (fun c_7 => ?_)
      refine mj_iload_n (i := 1) (q := 11) dX1_holdLifts_10 rfl rfl rfl ?_
      refine mj_aload_n (i := 0) (q := 12) dX1_holdLifts_11 rfl rfl rfl ?_
      refine mj_getr (q := 15) dX1_holdLifts_12 fl_X1_11 rfl rfl (by assumption) (by assumption) ?_
      refine mj_iload_n (i := 2) (q := 16) dX1_holdLifts_15 rfl rfl rfl ?_
      refine mj_aaldn (q := 17) dX1_holdLifts_16 rfl (by assumption) ⟨by omega, by omega⟩ (by assumption) ?_
      refine mj_getfv (q := 20) dX1_holdLifts_17 fl_X1_188 rfl rfl (by assumption) (by assumption) ?_
      refine mj_icmp_le (tgt := 33) (q := 23) dX1_holdLifts_20 (by decide) rfl (fun c_20 => ?_) (fun c_20 => ?_)
      · refine mj_iinc (i := 2) (q := 36) dX1_holdLifts_33 rfl rfl (by decide) rfl ?_
        dsimp only [List.set]
        refine mj_goto (q := 2) dX1_holdLifts_36 (by decide) ?_
        rw [show nI i + Int32.ofInt 1 = nI (i + 1) from nI_1 i]
        refine ih (i + 1) f1 (by omega) ?_ hF
        have e : vHold wind (ls i) = ls i := by unfold vHold; rw [if_neg (Int32.not_lt.mpr c_20)]
        rw [vHoldN, e, ← ev, mj_row_self]
        exact hM
      · refine mj_aload_n (i := 0) (q := 24) dX1_holdLifts_23 rfl rfl rfl ?_
        refine mj_getr (q := 27) dX1_holdLifts_24 fl_X1_11 rfl rfl (by assumption) (by assumption) ?_
        refine mj_iload_n (i := 2) (q := 28) dX1_holdLifts_27 rfl rfl rfl ?_
        refine mj_aaldn (q := 29) dX1_holdLifts_28 rfl (by assumption) ⟨by omega, by omega⟩ (by assumption) ?_
        refine mj_num1 (v := 1) (q := 30) rfl dX1_holdLifts_29 rfl ?_
        refine mj_putf (q := 33) dX1_holdLifts_30 fl_X1_191 rfl rfl (by assumption) rfl rfl rfl ?_
        refine mj_iinc (i := 2) (q := 36) dX1_holdLifts_33 rfl rfl (by decide) rfl ?_
        dsimp only [List.set]
        refine mj_goto (q := 2) dX1_holdLifts_36 (by decide) ?_
        rw [show nI i + Int32.ofInt 1 = nI (i + 1) from nI_1 i]
        refine ih (i + 1) _ (by omega) ?_ (mj_Fr.up hF (by omega) (by omega))
        have e : vHold wind (ls i) = upd (ls i) 3 1 := by unfold vHold; rw [if_pos (Int32.not_le.mp c_20)]
        rw [vHoldN, e]
        exact hM.lift (by omega) (hN_i.put (k0 := 3) (v := 1) (Or.inr (Or.inr rfl))) (mj_Fr.up mj_Fr.rf (by omega) (by omega))
  refine mj_entry (by refine ⟨by decide +kernel, by decide, rfl, Nat.le_of_ble_eq_true rfl⟩) ?_
  show mj_W _ _ _ _ _ 0 [.ref m, .int wind, .null] [] _
  refine mj_num1 (v := nI 0) (q := 1) (by decide) dX1_holdLifts_0 rfl ?_
  refine mj_istore_n (i := 2) (q := 2) dX1_holdLifts_1 rfl rfl (by decide) rfl ?_
  dsimp only [List.set]
  exact key lc 0 f (by omega) hN2 mj_Fr.rf
set_option maxHeartbeats 4000000 in
set_option maxRecDepth 100000 in
theorem s_removeGuns {d m : Nat} {n : Nat} {K : Nat → mj_K} {f : Nat → Nat → Int32} {g : Nat → Nat → Option Nat} {y : mV} (hL : LMn K g m) (hN : MN f m y) : mj_Cv m_X1_removeGuns d [.ref m] (n, K, f, g) (fun h1 => ∃ f1, h1 = (n, K, f1, g) ∧ MN f1 m (y.1, y.2.1, y.2.2.1, y.2.2.2.1, vGunless y.2.2.2.2 y.2.1) ∧ mj_Fr m (m + 47) f f1) := by
  have hL2 := hL
  have hN2 := hN
  obtain ⟨km, gm0, gm1, km1, km6, hLl, hLr⟩ := hL
  obtain ⟨lc, rc, mu, ls, rs⟩ := y
  obtain ⟨n1, n2, n3, n4, n5, n6, n7, n8⟩ := hN
  dsimp only at n1 n2 n3 n4 n5 n6 n7 n8
  have key : ∀ (j i : Nat) (f1 : Nat → Nat → Int32), i + j = rc → MN f1 m (lc, rc, mu, ls, vGunless rs i) → mj_Fr m (m + 47) f f1 → mj_W m_X1_removeGuns d 0 0 (fun v h1 => v = none ∧ ∃ f1, h1 = (n, K, f1, g) ∧ MN f1 m (lc, rc, mu, ls, vGunless rs rc) ∧ mj_Fr m (m + 47) f f1) 2 [.ref m, .int (nI i)] [] (n, K, f1, g) := by
    intro j
    induction j with
    | zero =>
      intro i f1 hi hM hF
      have hi : i = rc := by omega
      subst hi
      have o4 : f1 m 3 = nI i := hM.2.2.2.1
      refine mj_iload_n (i := 1) (q := 3) dX1_removeGuns_2 rfl rfl rfl ?_
      refine mj_aload_n (i := 0) (q := 4) dX1_removeGuns_3 rfl rfl rfl ?_
      refine mj_getfv (q := 7) dX1_removeGuns_4 fl_X1_42 rfl rfl (by assumption) (by assumption) ?_
      refine mj_icmp_ge (tgt := 26) (q := 10) dX1_removeGuns_7 (by decide) rfl (fun c_7 => ?_) (fun c_7 => absurd (Int32.le_refl _) c_7)
      exact mj_return dX1_removeGuns_26 rfl ⟨rfl, ⟨_, rfl, hM, hF⟩⟩
    | succ j ih =>
      intro i f1 hi hM hF
      have o4 : f1 m 3 = nI rc := hM.2.2.2.1
      have ev : vGunless rs i i = rs i := vGunless_ge (Nat.le_refl i)
      have o7 : ∀ k, k < rc → RN f1 (m + 7 + 5 * k) (vGunless rs i k) := hM.2.2.2.2.2.2.1
      have hg_i : g (m + 6) i = some (m + 7 + 5 * i) := (hLr i (by omega)).1
      have hL_i := (hLr i (by omega)).2
      have kr_i : K (m + 7 + 5 * i) = (2, 2, 0) := hL_i.1
      have gr_i : g (m + 7 + 5 * i) 0 = some ((m + 7 + 5 * i) + 1) := hL_i.2.1
      have ks_i : K ((m + 7 + 5 * i) + 1) = (2, 3, 0) := hL_i.2.2.1
      have hR_i := o7 i (by omega)
      rw [ev] at hR_i
      refine mj_iload_n (i := 1) (q := 3) dX1_removeGuns_2 rfl rfl rfl ?_
      refine mj_aload_n (i := 0) (q := 4) dX1_removeGuns_3 rfl rfl rfl ?_
      refine mj_getfv (q := 7) dX1_removeGuns_4 fl_X1_42 rfl rfl (by assumption) (by assumption) ?_
      refine mj_icmp_ge (tgt := 26) (q := 10) dX1_removeGuns_7 (by decide) rfl (fun c_7 => absurd c_7 (nI_ge (a := i) (b := rc) (by omega) (by omega))) (fun c_7 => ?_)
      refine mj_aload_n (i := 0) (q := 11) dX1_removeGuns_10 rfl rfl rfl ?_
      refine mj_getr (q := 14) dX1_removeGuns_11 fl_X1_20 rfl rfl (by assumption) (by assumption) ?_
      refine mj_iload_n (i := 1) (q := 15) dX1_removeGuns_14 rfl rfl rfl ?_
      refine mj_aaldn (q := 16) dX1_removeGuns_15 rfl (by assumption) ⟨by omega, by omega⟩ (by assumption) ?_
      refine mj_num1 (v := 0) (q := 17) rfl dX1_removeGuns_16 rfl ?_
      refine mj_putf (q := 20) dX1_removeGuns_17 fl_X1_75 rfl rfl (by assumption) rfl rfl rfl ?_
      refine mj_iinc (i := 1) (q := 23) dX1_removeGuns_20 rfl rfl (by decide) rfl ?_
      dsimp only [List.set]
      refine mj_goto (q := 2) dX1_removeGuns_23 (by decide) ?_
      rw [show nI i + Int32.ofInt 1 = nI (i + 1) from nI_1 i]
      refine ih (i + 1) _ (by omega) ?_ (mj_Fr.up hF (by omega) (by omega))
      rw [vGunless]
      exact hM.run (by omega) (hR_i.put (k0 := 6) (v := 0) (by omega)) (mj_Fr.up mj_Fr.rf (by omega) (by omega)) (by rw [ev]; simp [upd])
  refine mj_entry (by refine ⟨by decide +kernel, by decide, rfl, Nat.le_of_ble_eq_true rfl⟩) ?_
  show mj_W _ _ _ _ _ 0 [.ref m, .null] [] _
  refine mj_num1 (v := nI 0) (q := 1) (by decide) dX1_removeGuns_0 rfl ?_
  refine mj_istore_n (i := 1) (q := 2) dX1_removeGuns_1 rfl rfl (by decide) rfl ?_
  dsimp only [List.set]
  exact key rc 0 f (by omega) hN2 mj_Fr.rf
theorem mj_clampLe {x : Int32} {q : Nat} (h : x.toNatClampNeg ≤ q ∧ q < 2 ^ 31) : x ≤ nI q := by
  rcases Int32.lt_or_le x 0 with hx | hx
  · exact Int32.le_trans (Int32.le_of_lt hx) (nI_pos' h.2)
  · obtain ⟨j, hj, rfl⟩ := nI_of (Int32.not_lt.mpr hx)
    rw [nI_clamp hj] at h
    exact nI_le h.1 h.2
theorem mj_clampGt {x : Int32} {q : Nat} (h : q < x.toNatClampNeg) : ¬ x ≤ nI q := by
  rcases Int32.lt_or_le x 0 with hx | hx
  · have e : x.toNatClampNeg = 0 := Int.toNat_of_nonpos (by have := Int32.lt_iff_toInt_lt.mp hx; have h0 : (0 : Int32).toInt = 0 := by decide
                                                            omega)
    omega
  · obtain ⟨j, hj, rfl⟩ := nI_of (Int32.not_lt.mpr hx)
    rw [nI_clamp hj] at h
    exact nI_ge h hj
theorem mj_clamp31 (x : Int32) : x.toNatClampNeg < 2 ^ 31 := by
  have := x.toInt_lt
  show x.toInt.toNat < 2 ^ 31
  omega
set_option maxHeartbeats 4000000 in
set_option maxRecDepth 100000 in
theorem s_makeSnow {d m i : Nat} {bulb : Int32} {n : Nat} {K : Nat → mj_K} {f : Nat → Nat → Int32} {g : Nat → Nat → Option Nat} {y : mV} (hL : LMn K g m) (hN : MN f m y) (hi : i < y.2.1) : mj_Cv m_X1_makeSnow (d + 3) [.ref m, .ref (m + 7 + 5 * i), .int bulb] (n, K, f, g) (fun h1 => ∃ f1, h1 = (n, K, f1, g) ∧ MN f1 m (y.1, y.2.1, upd y.2.2.1 6 (vMakeG bulb ((y.2.2.2.2 i).2 6) (y.2.2.1 6) ((y.2.2.2.2 i).2 7)).1, y.2.2.2.1, mj_row y.2.2.2.2 i (vMakeRun (vMakeG bulb ((y.2.2.2.2 i).2 6) (y.2.2.1 6) ((y.2.2.2.2 i).2 7)).2 (y.2.2.2.2 i))) ∧ mj_Fr m (m + 47) f f1) := by
  have hL2 := hL
  have hN2 := hN
  obtain ⟨km, gm0, gm1, km1, km6, hLl, hLr⟩ := hL
  obtain ⟨lc, rc, mu, ls, rs⟩ := y
  obtain ⟨n1, n2, n3, n4, n5, n6, n7, n8⟩ := hN
  dsimp only at n1 n2 n3 n4 n5 n6 n7 n8
  have hi : i < rc := hi
  have u6 : f m 6 = mu 6 := n5 6 (by omega) (by omega)
  have hg_i : g (m + 6) i = some (m + 7 + 5 * i) := (hLr i (by omega)).1
  have hL_i := (hLr i (by omega)).2
  have kr_i : K (m + 7 + 5 * i) = (2, 2, 0) := hL_i.1
  have gr_i : g (m + 7 + 5 * i) 0 = some ((m + 7 + 5 * i) + 1) := hL_i.2.1
  have ks_i : K ((m + 7 + 5 * i) + 1) = (2, 3, 0) := hL_i.2.2.1
  have hR_i := n7 i (by omega)
  have e5_i : f (m + 7 + 5 * i) 5 = (rs i).2 5 := hR_i.2.1 5 (by omega) (by omega)
  have e6_i : f (m + 7 + 5 * i) 6 = (rs i).2 6 := hR_i.2.1 6 (by omega) (by omega)
  have e7_i : f (m + 7 + 5 * i) 7 = (rs i).2 7 := hR_i.2.1 7 (by omega) (by omega)
  have key84 : ∀ (f1 : Nat → Nat → Int32) (w h made : Int32) (v3 v4 : Value), MN f1 m (lc, rc, upd mu 6 w, ls, mj_row rs i ((rs i).1, upd (rs i).2 7 h)) → vMakeG bulb ((rs i).2 6) (mu 6) ((rs i).2 7) = (w, h) → made = vMade h ((rs i).2 5) → mj_Fr m (m + 47) f f1 → mj_W m_X1_makeSnow (d + 3) 0 0 (fun v h1 => v = none ∧ ∃ f1, h1 = (n, K, f1, g) ∧ MN f1 m (lc, rc, upd mu 6 (vMakeG bulb ((rs i).2 6) (mu 6) ((rs i).2 7)).1, ls, mj_row rs i (vMakeRun (vMakeG bulb ((rs i).2 6) (mu 6) ((rs i).2 7)).2 (rs i))) ∧ mj_Fr m (m + 47) f f1) 84 [.ref m, .ref (m + 7 + 5 * i), .int bulb, v3, v4] [.int made] (n, K, f1, g) := by
    intro f1 w h made v3 v4 hM hv hmade hF
    rw [hv]
    have hR1 : RN f1 (m + 7 + 5 * i) (mj_row rs i ((rs i).1, upd (rs i).2 7 h) i) := hM.2.2.2.2.2.2.1 i hi
    rw [mj_rowe] at hR1
    have a5 : f1 (m + 7 + 5 * i) 5 = (rs i).2 5 := by rw [hR1.2.1 5 (by omega) (by omega)]; simp [upd]
    have a7 : f1 (m + 7 + 5 * i) 7 = h := by rw [hR1.2.1 7 (by omega) (by omega)]; simp [upd]
    have hR2 := hR1.put (k0 := 7) (v := h - made * (rs i).2 5) (by omega)
    rw [upd_upd] at hR2
    have hM2 := hM.run hi hR2 (mj_Fr.up mj_Fr.rf (by omega) (by omega)) (by rw [mj_rowe]; simp [upd])
    rw [mj_row_row] at hM2
    have hF2 : mj_Fr m (m + 47) f (mj_up f1 (m + 7 + 5 * i) 7 (h - made * (rs i).2 5)) := mj_Fr.up hF (by omega) (by omega)
    refine mj_istore_n (i := 3) (q := 85) dX1_makeSnow_84 rfl rfl (by decide) rfl ?_
    dsimp only [List.set]
    refine mj_aload_n (i := 1) (q := 86) dX1_makeSnow_85 rfl rfl rfl ?_
    refine mj_dup (q := 87) rfl dX1_makeSnow_86 rfl ?_
    refine mj_getfv (q := 90) dX1_makeSnow_87 fl_X1_197 rfl rfl (by assumption) (by assumption) ?_
    refine mj_iload_n (i := 3) (q := 91) dX1_makeSnow_90 rfl rfl rfl ?_
    refine mj_aload_n (i := 1) (q := 92) dX1_makeSnow_91 rfl rfl rfl ?_
    refine mj_getfv (q := 95) dX1_makeSnow_92 fl_X1_99 rfl rfl (by assumption) (by assumption) ?_
    refine mj_imul (q := 96) dX1_makeSnow_95 rfl ?_
    refine mj_isub (q := 97) dX1_makeSnow_96 rfl ?_
    refine mj_putf (q := 100) dX1_makeSnow_97 fl_X1_197 rfl rfl (by assumption) rfl rfl rfl ?_
    refine mj_iload_n (i := 3) (q := 101) dX1_makeSnow_100 rfl rfl rfl ?_
    refine mj_if_le (tgt := 126) (q := 104) dX1_makeSnow_101 (by decide) rfl (fun c_101 => ?_) (fun c_101 => ?_)
    · refine mj_iload_n (i := 3) (q := 127) dX1_makeSnow_126 rfl rfl rfl ?_
      refine mj_if_le (tgt := 141) (q := 130) dX1_makeSnow_127 (by decide) rfl (fun c_127 => ?_) (fun c_127 => absurd c_101 c_127)
      have e : vMakeRun h (rs i) = ((rs i).1, upd (rs i).2 7 (h - made * (rs i).2 5)) := by unfold vMakeRun vPile; rw [← hmade, if_neg (Int32.not_lt.mpr c_101)]
      refine mj_return dX1_makeSnow_141 rfl ⟨rfl, _, rfl, ?_, hF2⟩
      rw [e]; exact hM2
    · refine mj_aload_n (i := 1) (q := 105) dX1_makeSnow_104 rfl rfl rfl ?_
      refine mj_getr (q := 108) dX1_makeSnow_105 fl_X1_89 rfl rfl (by assumption) (by assumption) ?_
      refine mj_num1 (v := 3) (q := 109) rfl dX1_makeSnow_108 rfl ?_
      refine mj_cV1i (K := m_X3_topIs) (q := 112) dX1_makeSnow_109 ln_X1_200 ok_X3_topIs (Nat.le_of_ble_eq_true rfl) (by decide) (by assumption) rfl rfl (s_topIs hL_i.2.2 hR2.1) (fun r_109 h1 hq => ?_)
      obtain ⟨rfl, hr_109⟩ := hq
      refine mj_if_eq (tgt := 126) (q := 115) dX1_makeSnow_112 (by decide) rfl (fun c_112 => ?_) (fun c_112 => ?_)
      · refine mj_iload_n (i := 3) (q := 127) dX1_makeSnow_126 rfl rfl rfl ?_
        refine mj_if_le (tgt := 141) (q := 130) dX1_makeSnow_127 (by decide) rfl (fun c_127 => absurd c_127 c_101) (fun c_127 => ?_)
        refine mj_aload_n (i := 1) (q := 131) dX1_makeSnow_130 rfl rfl rfl ?_
        refine mj_getr (q := 134) dX1_makeSnow_131 fl_X1_89 rfl rfl (by assumption) (by assumption) ?_
        refine mj_num1 (v := 3) (q := 135) rfl dX1_makeSnow_134 rfl ?_
        refine mj_iload_n (i := 3) (q := 136) dX1_makeSnow_135 rfl rfl rfl ?_
        refine mj_num2 (v := 40) (q := 138) (by decide) dX1_makeSnow_136 rfl ?_
        refine mj_cV3v (K := m_X3_lay) (q := 141) dX1_makeSnow_138 ln_X1_207 ok_X3_lay (Nat.le_of_ble_eq_true rfl) (by decide) (by assumption) rfl rfl (s_lay hL_i.2.2 hR2.1) (fun h1 hq => ?_)
        obtain ⟨f3, rfl, hS3, hF3⟩ := hq
        have h0 : vTop 3 (rs i).1 = false := by rw [hr_109, mj_i01] at c_112; exact c_112
        have e : vMakeRun h (rs i) = (vLay 3 made 40 (rs i).1, upd (rs i).2 7 (h - made * (rs i).2 5)) := by unfold vMakeRun vPile; rw [← hmade, if_pos (Int32.not_le.mp c_101), if_neg (by rw [h0]; simp)]
        refine mj_return dX1_makeSnow_141 rfl ⟨rfl, _, rfl, ?_, hF2.tr (hF3.wide (by omega) (by omega))⟩
        have hM3 := hM2.run hi (hR2.snow hS3 hF3) (hF3.wide (by omega) (by omega)) (by rw [mj_rowe])
        rw [mj_row_row] at hM3
        rw [e]; exact hM3
      · refine mj_aload_n (i := 1) (q := 116) dX1_makeSnow_115 rfl rfl rfl ?_
        refine mj_getr (q := 119) dX1_makeSnow_116 fl_X1_89 rfl rfl (by assumption) (by assumption) ?_
        refine mj_iload_n (i := 3) (q := 120) dX1_makeSnow_119 rfl rfl rfl ?_
        refine mj_cV1v (K := m_X3_thicken) (q := 123) dX1_makeSnow_120 ln_X1_204 ok_X3_thicken (Nat.le_of_ble_eq_true rfl) (by decide) (by assumption) rfl rfl (s_thicken hL_i.2.2 hR2.1) (fun h1 hq => ?_)
        obtain ⟨f3, rfl, hS3, hF3⟩ := hq
        refine mj_goto (q := 141) dX1_makeSnow_123 (by decide) ?_
        have h0 : vTop 3 (rs i).1 = true := by rw [hr_109, mj_i01] at c_112; simpa using c_112
        have e : vMakeRun h (rs i) = (vThicken made (rs i).1, upd (rs i).2 7 (h - made * (rs i).2 5)) := by unfold vMakeRun vPile; rw [← hmade, if_pos (Int32.not_le.mp c_101), if_pos h0]
        refine mj_return dX1_makeSnow_141 rfl ⟨rfl, _, rfl, ?_, hF2.tr (hF3.wide (by omega) (by omega))⟩
        have hM3 := hM2.run hi (hR2.snow hS3 hF3) (hF3.wide (by omega) (by omega)) (by rw [mj_rowe])
        rw [mj_row_row] at hM3
        rw [e]; exact hM3
  have key63 : ∀ (f1 : Nat → Nat → Int32) (w h : Int32) (v3 v4 : Value), MN f1 m (lc, rc, upd mu 6 w, ls, mj_row rs i ((rs i).1, upd (rs i).2 7 h)) → vMakeG bulb ((rs i).2 6) (mu 6) ((rs i).2 7) = (w, h) → mj_Fr m (m + 47) f f1 → mj_W m_X1_makeSnow (d + 3) 0 0 (fun v h1 => v = none ∧ ∃ f1, h1 = (n, K, f1, g) ∧ MN f1 m (lc, rc, upd mu 6 (vMakeG bulb ((rs i).2 6) (mu 6) ((rs i).2 7)).1, ls, mj_row rs i (vMakeRun (vMakeG bulb ((rs i).2 6) (mu 6) ((rs i).2 7)).2 (rs i))) ∧ mj_Fr m (m + 47) f f1) 63 [.ref m, .ref (m + 7 + 5 * i), .int bulb, v3, v4] [] (n, K, f1, g) := by
    intro f1 w h v3 v4 hM hv hF
    have hR1 : RN f1 (m + 7 + 5 * i) (mj_row rs i ((rs i).1, upd (rs i).2 7 h) i) := hM.2.2.2.2.2.2.1 i hi
    rw [mj_rowe] at hR1
    have a5 : f1 (m + 7 + 5 * i) 5 = (rs i).2 5 := by rw [hR1.2.1 5 (by omega) (by omega)]; simp [upd]
    have a7 : f1 (m + 7 + 5 * i) 7 = h := by rw [hR1.2.1 7 (by omega) (by omega)]; simp [upd]
    refine mj_aload_n (i := 1) (q := 64) dX1_makeSnow_63 rfl rfl rfl ?_
    refine mj_getfv (q := 67) dX1_makeSnow_64 fl_X1_99 rfl rfl (by assumption) (by assumption) ?_
    refine mj_num1 (v := 1) (q := 68) rfl dX1_makeSnow_67 rfl ?_
    refine mj_icmp_ge (tgt := 75) (q := 71) dX1_makeSnow_68 (by decide) rfl (fun c_68 => ?_) (fun c_68 => ?_)
    · refine mj_aload_n (i := 1) (q := 76) dX1_makeSnow_75 rfl rfl rfl ?_
      refine mj_getfv (q := 79) dX1_makeSnow_76 fl_X1_197 rfl rfl (by assumption) (by assumption) ?_
      refine mj_aload_n (i := 1) (q := 80) dX1_makeSnow_79 rfl rfl rfl ?_
      refine mj_getfv (q := 83) dX1_makeSnow_80 fl_X1_99 rfl rfl (by assumption) (by assumption) ?_
      refine mj_idiv (q := 84) (fun z => by rw [z] at c_68; exact absurd c_68 (by decide)) dX1_makeSnow_83 rfl ?_
      exact key84 f1 w h _ _ _ hM hv (by unfold vMade; rw [if_pos c_68]) hF
    · refine mj_num1 (v := 0) (q := 72) rfl dX1_makeSnow_71 rfl ?_
      refine mj_goto (q := 84) dX1_makeSnow_72 (by decide) ?_
      exact key84 f1 w h _ _ _ hM hv (by unfold vMade; rw [if_neg c_68]) hF
  have hM0 : MN f m (lc, rc, upd mu 6 (mu 6), ls, mj_row rs i ((rs i).1, upd (rs i).2 7 ((rs i).2 7))) := by rw [upd_self, upd_self, show ((rs i).1, (rs i).2) = rs i from rfl, mj_row_self]; exact hN2
  have key19 : ¬ -4 < bulb → ∀ (j q : Nat) (f1 : Nat → Nat → Int32) (w h : Int32), q + j = ((rs i).2 6).toNatClampNeg → MN f1 m (lc, rc, upd mu 6 w, ls, mj_row rs i ((rs i).1, upd (rs i).2 7 h)) → vMakeG bulb ((rs i).2 6) (mu 6) ((rs i).2 7) = vGuns (vMin (-3 - bulb) 6) j w h → mj_Fr m (m + 47) f f1 → mj_W m_X1_makeSnow (d + 3) 0 0 (fun v h1 => v = none ∧ ∃ f1, h1 = (n, K, f1, g) ∧ MN f1 m (lc, rc, upd mu 6 (vMakeG bulb ((rs i).2 6) (mu 6) ((rs i).2 7)).1, ls, mj_row rs i (vMakeRun (vMakeG bulb ((rs i).2 6) (mu 6) ((rs i).2 7)).2 (rs i))) ∧ mj_Fr m (m + 47) f f1) 19 [.ref m, .ref (m + 7 + 5 * i), .int bulb, .int (vMin (-3 - bulb) 6), .int (nI q)] [] (n, K, f1, g) := by
    intro hb j
    induction j with
    | zero =>
      intro q f1 w h hq hM hv hF
      have hR1 : RN f1 (m + 7 + 5 * i) (mj_row rs i ((rs i).1, upd (rs i).2 7 h) i) := hM.2.2.2.2.2.2.1 i hi
      rw [mj_rowe] at hR1
      have a6 : f1 (m + 7 + 5 * i) 6 = (rs i).2 6 := by rw [hR1.2.1 6 (by omega) (by omega)]; simp [upd]
      have hge : (rs i).2 6 ≤ nI q := mj_clampLe ⟨by omega, by have := mj_clamp31 ((rs i).2 6); omega⟩
      refine mj_iload (i := 4) (q := 21) dX1_makeSnow_19 rfl rfl ?_
      refine mj_aload_n (i := 1) (q := 22) dX1_makeSnow_21 rfl rfl rfl ?_
      refine mj_getfv (q := 25) dX1_makeSnow_22 fl_X1_75 rfl rfl (by assumption) (by assumption) ?_
      refine mj_icmp_ge (tgt := 63) (q := 28) dX1_makeSnow_25 (by decide) rfl (fun c_25 => ?_) (fun c_25 => absurd hge c_25)
      exact key63 f1 w h _ _ hM hv hF
    | succ j ih =>
      intro q f1 w h hq hM hv hF
      have hR1 : RN f1 (m + 7 + 5 * i) (mj_row rs i ((rs i).1, upd (rs i).2 7 h) i) := hM.2.2.2.2.2.2.1 i hi
      rw [mj_rowe] at hR1
      have a6 : f1 (m + 7 + 5 * i) 6 = (rs i).2 6 := by rw [hR1.2.1 6 (by omega) (by omega)]; simp [upd]
      have a7 : f1 (m + 7 + 5 * i) 7 = h := by rw [hR1.2.1 7 (by omega) (by omega)]; simp [upd]
      have aw : f1 m 6 = w := by rw [show f1 m 6 = upd mu 6 w 6 from hM.2.2.2.2.1 6 (by omega) (by omega)]; simp [upd]
      have hlt : ¬ (rs i).2 6 ≤ nI q := mj_clampGt (by omega)
      rw [vGuns] at hv
      refine mj_iload (i := 4) (q := 21) dX1_makeSnow_19 rfl rfl ?_
      refine mj_aload_n (i := 1) (q := 22) dX1_makeSnow_21 rfl rfl rfl ?_
      refine mj_getfv (q := 25) dX1_makeSnow_22 fl_X1_75 rfl rfl (by assumption) (by assumption) ?_
      refine mj_icmp_ge (tgt := 63) (q := 28) dX1_makeSnow_25 (by decide) rfl (fun c_25 => absurd c_25 hlt) (fun c_25 => ?_)
      refine mj_aload_n (i := 0) (q := 29) dX1_makeSnow_28 rfl rfl rfl ?_
      refine mj_getfv (q := 32) dX1_makeSnow_29 fl_X1_25 rfl rfl (by assumption) (by assumption) ?_
      refine mj_num2 (v := 105) (q := 34) (by decide) dX1_makeSnow_32 rfl ?_
      refine mj_icmp_lt (tgt := 63) (q := 37) dX1_makeSnow_34 (by decide) rfl (fun c_34 => ?_) (fun c_34 => ?_)
      · rw [if_pos c_34] at hv
        exact key63 f1 w h _ _ hM hv hF
      · refine mj_aload_n (i := 0) (q := 38) dX1_makeSnow_37 rfl rfl rfl ?_
        refine mj_dup (q := 39) rfl dX1_makeSnow_38 rfl ?_
        refine mj_getfv (q := 42) dX1_makeSnow_39 fl_X1_25 rfl rfl (by assumption) (by assumption) ?_
        refine mj_num1 (v := 5) (q := 43) rfl dX1_makeSnow_42 rfl ?_
        refine mj_isub (q := 44) dX1_makeSnow_43 rfl ?_
        refine mj_putf (q := 47) dX1_makeSnow_44 fl_X1_25 rfl rfl (by assumption) rfl rfl rfl ?_
        refine mj_aload_n (i := 1) (q := 48) dX1_makeSnow_47 rfl rfl rfl ?_
        refine mj_dup (q := 49) rfl dX1_makeSnow_48 rfl ?_
        refine mj_getf (q := 52) dX1_makeSnow_49 fl_X1_197 rfl rfl (by assumption) ?_
        refine mj_top (y := h) (by rw [mj_upn (by omega)]; exact a7) ?_
        refine mj_iload_n (i := 3) (q := 53) dX1_makeSnow_52 rfl rfl rfl ?_
        refine mj_iadd (q := 54) dX1_makeSnow_53 rfl ?_
        refine mj_putf (q := 57) dX1_makeSnow_54 fl_X1_197 rfl rfl (by assumption) rfl rfl rfl ?_
        refine mj_iinc (i := 4) (q := 60) dX1_makeSnow_57 rfl rfl (by decide) rfl ?_
        dsimp only [List.set]
        refine mj_goto (q := 19) dX1_makeSnow_60 (by decide) ?_
        rw [if_neg c_34] at hv
        rw [show nI q + Int32.ofInt 1 = nI (q + 1) from nI_1 q]
        have hM1 := hM.put (k0 := 6) (v := w - 5) (by omega)
        rw [upd_upd] at hM1
        have hR3 : RN (mj_up f1 m 6 (w - 5)) (m + 7 + 5 * i) ((rs i).1, upd (rs i).2 7 h) := hR1.keep (lo := m) (hi := m + 1) (mj_Fr.up mj_Fr.rf (by omega) (by omega)) (by omega)
        have hR2 := hR3.put (k0 := 7) (v := h + vMin (-3 - bulb) 6) (by omega)
        rw [upd_upd] at hR2
        have hM2 := hM1.run hi hR2 (mj_Fr.up mj_Fr.rf (by omega) (by omega)) (by rw [mj_rowe]; simp [upd])
        rw [mj_row_row] at hM2
        exact ih (q + 1) _ (w - 5) (h + vMin (-3 - bulb) 6) (by omega) hM2 hv (mj_Fr.up (mj_Fr.up hF (by omega) (by omega)) (by omega) (by omega))
  refine mj_entry (by refine ⟨by decide +kernel, by decide, rfl, Nat.le_of_ble_eq_true rfl⟩) ?_
  show mj_W _ _ _ _ _ 0 [.ref m, .ref (m + 7 + 5 * i), .int bulb, .null, .null] [] _
  refine mj_iload_n (i := 2) (q := 1) dX1_makeSnow_0 rfl rfl rfl ?_
  refine mj_num2 (v := (-4)) (q := 3) (by decide) dX1_makeSnow_1 rfl ?_
  refine mj_icmp_gt (tgt := 63) (q := 6) dX1_makeSnow_3 (by decide) rfl (fun c_3 => ?_) (fun c_3 => ?_)
  · exact key63 f _ _ _ _ hM0 (by unfold vMakeG; rw [if_pos c_3]) mj_Fr.rf
  · refine mj_num2 (v := (-3)) (q := 8) (by decide) dX1_makeSnow_6 rfl ?_
    refine mj_iload_n (i := 2) (q := 9) dX1_makeSnow_8 rfl rfl rfl ?_
    refine mj_isub (q := 10) dX1_makeSnow_9 rfl ?_
    refine mj_num2 (v := 6) (q := 12) (by decide) dX1_makeSnow_10 rfl ?_
    refine mj_mmin (q := 15) dX1_makeSnow_12 ln_X1_194 (Nat.le_of_ble_eq_true rfl) rfl ?_
    refine mj_istore_n (i := 3) (q := 16) dX1_makeSnow_15 rfl rfl (by decide) rfl ?_
    dsimp only [List.set]
    refine mj_num1 (v := nI 0) (q := 17) (by decide) dX1_makeSnow_16 rfl ?_
    refine mj_istore (i := 4) (q := 19) dX1_makeSnow_17 rfl (by decide) rfl ?_
    dsimp only [List.set]
    exact key19 c_3 ((rs i).2 6).toNatClampNeg 0 f (mu 6) ((rs i).2 7) (Nat.zero_add _) hM0 (by unfold vMakeG; rw [if_neg c_3]) mj_Fr.rf
