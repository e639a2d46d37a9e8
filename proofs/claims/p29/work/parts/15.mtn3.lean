/-! THE MOUNTAIN, third part: skiers, and an hour -/
theorem mj_upe {α : Type} {f : Nat → Nat → α} {a k : Nat} {v : α} : mj_up f a k v a k = v := by simp [mj_up]
def wSkiMu (riders : Int32) (mu : Nat → Int32) (x : rV) : Nat → Int32 := upd mu 13 (mu 13 + (if riders ≤ 40 * x.2 5 then 0 else 1) + (if vTop 2 x.1 = true then riders / 50 else 0))
def vShareN (l q ex0 : Int32) (mu : Nat → Int32) (rs : Nat → rV) : Nat → (Nat → Int32) × (Nat → rV) × Int32
  | 0 => (mu, rs, ex0)
  | n + 1 => if ¬ (rs n).2 15 = 0 ∧ (rs n).2 1 = l then (wSkiMu (q + (vShareN l q ex0 mu rs n).2.2) (vShareN l q ex0 mu rs n).1 (rs n), mj_row (vShareN l q ex0 mu rs n).2.1 n (vSkiRun (q + (vShareN l q ex0 mu rs n).2.2) (rs n)), 0) else vShareN l q ex0 mu rs n
theorem vShareN_ge {l q ex0 : Int32} {mu : Nat → Int32} {rs : Nat → rV} : ∀ {n k : Nat}, n ≤ k → (vShareN l q ex0 mu rs n).2.1 k = rs k
  | 0, _, _ => rfl
  | n + 1, k, h => by
    rw [vShareN]
    split
    · show mj_row _ n _ k = rs k
      rw [mj_rown (by omega), vShareN_ge (by omega)]
    · exact vShareN_ge (by omega)
def vCarryN (rc : Nat) (mu : Nat → Int32) (ls : Nat → Nat → Int32) (rs : Nat → rV) (left : Int32) : Nat → (Nat → Int32) × (Nat → Nat → Int32) × (Nat → rV) × Int32
  | 0 => (mu, ls, rs, left)
  | n + 1 => match vCarryN rc mu ls rs left n with
    | (m1, l1, r1, lf) => if vMoving (ls n) = true ∧ 0 < vOpenOf r1 (nI n) rc then
        match vShareN (nI n) (vMin (ls n 0) lf / vOpenOf r1 (nI n) rc) (vMin (ls n 0) lf % vOpenOf r1 (nI n) rc) (upd m1 14 (m1 14 + vMin (ls n 0) lf)) r1 rc with
        | (m2, r2, _) => (m2, mj_row l1 n (upd (ls n) 4 (ls n 4 + vMin (ls n 0) lf)), r2, lf - vMin (ls n 0) lf)
      else (m1, l1, r1, lf)
theorem vCarryN_ge {rc : Nat} {mu : Nat → Int32} {ls : Nat → Nat → Int32} {rs : Nat → rV} {left : Int32} : ∀ {n k : Nat}, n ≤ k → (vCarryN rc mu ls rs left n).2.1 k = ls k
  | 0, _, _ => rfl
  | n + 1, k, h => by
    have ih := vCarryN_ge (rc := rc) (mu := mu) (ls := ls) (rs := rs) (left := left) (n := n) (k := k) (by omega)
    rw [vCarryN]
    generalize vCarryN rc mu ls rs left n = S at ih ⊢
    obtain ⟨m1, l1, r1, lf⟩ := S
    dsimp only
    split
    · show mj_row l1 n _ k = ls k
      rw [mj_rown (by omega)]
      exact ih
    · exact ih
def vCarryS (S : (Nat → Int32) × (Nat → Nat → Int32) × (Nat → rV) × Int32) : (Nat → Int32) × (Nat → Nat → Int32) × (Nat → rV) := (upd S.1 15 (S.1 15 + S.2.2.2), S.2.1, S.2.2.1)
def vHourRun (W : Nat → Int32) (mu : Nat → Int32) (x : rV) : (Nat → Int32) × rV :=
  let temp := W 0 - x.2 2 / 2
  let x1 : rV := (vWeather W (x.2 4) temp (mu 4 % 24) x.1, x.2)
  let G := vMakeG (temp - (100 - W 4) / 10) (x.2 6) (mu 6) (x.2 7)
  let x2 := vMakeRun G.2 x1
  let risk := vRisk (x2.2 3) x2.1
  let x3 : rV := (x2.1, upd x2.2 14 risk)
  if risk < 100 then (upd mu 6 G.1, x3) else
    let x4 : rV := (x3.1, upd x3.2 15 0)
    (vSlideMu (upd (upd mu 6 G.1) 12 ((upd mu 6 G.1) 12 + v01 (x3.2 15))) (vSlideSize x4), vSlideRun x4)
def vHourN (W : Nat → Int32) (mu : Nat → Int32) (rs : Nat → rV) : Nat → (Nat → Int32) × (Nat → rV)
  | 0 => (mu, rs)
  | n + 1 => ((vHourRun W (vHourN W mu rs n).1 (rs n)).1, mj_row (vHourN W mu rs n).2 n (vHourRun W (vHourN W mu rs n).1 (rs n)).2)
theorem vHourN_ge {W mu : Nat → Int32} {rs : Nat → rV} : ∀ {n k : Nat}, n ≤ k → (vHourN W mu rs n).2 k = rs k
  | 0, _, _ => rfl
  | n + 1, k, h => by
    show mj_row _ n _ k = rs k
    rw [mj_rown (by omega), vHourN_ge (by omega)]
def vHour (W : Nat → Int32) (y : mV) : mV := match y with
  | (lc, rc, mu, ls, rs) => match vHourN W (upd (upd mu 4 (mu 4 + 1)) 5 (W 2)) rs rc with
    | (m1, r1) => if 9 ≤ m1 4 % 24 ∧ m1 4 % 24 ≤ 16 then
        match vCarryS (vCarryN rc m1 (vHoldN (W 2) ls lc) r1 (m1 9) lc) with
        | (m2, l2, r2) => (lc, rc, m2, l2, r2)
      else (lc, rc, m1, vHoldN (W 2) ls lc, r1)

set_option maxHeartbeats 4000000 in
set_option maxRecDepth 100000 in
theorem s_skiOn {d m i : Nat} {riders : Int32} {n : Nat} {K : Nat → mj_K} {f : Nat → Nat → Int32} {g : Nat → Nat → Option Nat} {y : mV} (hL : LMn K g m) (hN : MN f m y) (hi : i < y.2.1) : mj_Cv m_X1_skiOn (d + 1) [.ref m, .ref (m + 7 + 5 * i), .int riders] (n, K, f, g) (fun h1 => ∃ f1, h1 = (n, K, f1, g) ∧ MN f1 m (y.1, y.2.1, wSkiMu riders y.2.2.1 (y.2.2.2.2 i), y.2.2.2.1, mj_row y.2.2.2.2 i (vSkiRun riders (y.2.2.2.2 i))) ∧ mj_Fr m (m + 47) f f1) := by
  have hL2 := hL
  have hN2 := hN
  obtain ⟨km, gm0, gm1, km1, km6, hLl, hLr⟩ := hL
  obtain ⟨lc, rc, mu, ls, rs⟩ := y
  obtain ⟨n1, n2, n3, n4, n5, n6, n7, n8⟩ := hN
  dsimp only at n1 n2 n3 n4 n5 n6 n7 n8
  have hi : i < rc := hi
  have u13 : f m 13 = mu 13 := n5 13 (by omega) (by omega)
  have hg_i : g (m + 6) i = some (m + 7 + 5 * i) := (hLr i (by omega)).1
  have hL_i := (hLr i (by omega)).2
  have kr_i : K (m + 7 + 5 * i) = (2, 2, 0) := hL_i.1
  have gr_i : g (m + 7 + 5 * i) 0 = some ((m + 7 + 5 * i) + 1) := hL_i.2.1
  have ks_i : K ((m + 7 + 5 * i) + 1) = (2, 3, 0) := hL_i.2.2.1
  have hR_i := n7 i (by omega)
  have e5_i : f (m + 7 + 5 * i) 5 = (rs i).2 5 := hR_i.2.1 5 (by omega) (by omega)
  have e8_i : f (m + 7 + 5 * i) 8 = (rs i).2 8 := hR_i.2.1 8 (by omega) (by omega)
  have main : ∀ cr : Int32, (cr = 0 ↔ vTop 2 (rs i).1 = false) → mj_W m_X1_skiOn (d + 1) 0 0 (fun v h1 => v = none ∧ ∃ f1, h1 = (n, K, f1, g) ∧ MN f1 m (lc, rc, wSkiMu riders mu (rs i), ls, mj_row rs i (vSkiRun riders (rs i))) ∧ mj_Fr m (m + 47) f f1) 9 [.ref m, .ref (m + 7 + 5 * i), .int riders, .int cr, .null, .null] [] (n, K, f, g) := by
    intro cr hcr
    have key : ∀ (j t : Nat) (f1 : Nat → Nat → Int32) (z : sV), t + j = (((rs i).2 8 + riders) / 200 - (rs i).2 8 / 200).toNatClampNeg → RN f1 (m + 7 + 5 * i) (z, upd (rs i).2 8 ((rs i).2 8 + riders)) → vThinN (((rs i).2 8 + riders) / 200 - (rs i).2 8 / 200).toNatClampNeg (rs i).1 = vThinN j z → mj_Fr (m + 7 + 5 * i) (m + 12 + 5 * i) f f1 → mj_W m_X1_skiOn (d + 1) 0 0 (fun v h1 => v = none ∧ ∃ f1, h1 = (n, K, f1, g) ∧ MN f1 m (lc, rc, wSkiMu riders mu (rs i), ls, mj_row rs i (vSkiRun riders (rs i))) ∧ mj_Fr m (m + 47) f f1) 43 [.ref m, .ref (m + 7 + 5 * i), .int riders, .int cr, .int (((rs i).2 8 + riders) / 200 - (rs i).2 8 / 200), .int (nI t)] [] (n, K, f1, g) := by
      intro j
      induction j with
      | zero =>
        intro t f1 z ht hR hz hF
        have hge : ((rs i).2 8 + riders) / 200 - (rs i).2 8 / 200 ≤ nI t := mj_clampLe ⟨by omega, by have := mj_clamp31 (((rs i).2 8 + riders) / 200 - (rs i).2 8 / 200); omega⟩
        have a5 : f1 (m + 7 + 5 * i) 5 = (rs i).2 5 := by rw [hR.2.1 5 (by omega) (by omega)]; simp [upd]
        have v13 : f1 m 13 = mu 13 := by rw [hF m (by omega)]; exact u13
        have hM1 := hN2.run hi hR hF (by simp [upd])
        rw [show z = vThinN 0 z from rfl, ← hz] at hM1
        refine mj_iload (i := 5) (q := 45) dX1_skiOn_43 rfl rfl ?_
        refine mj_iload (i := 4) (q := 47) dX1_skiOn_45 rfl rfl ?_
        refine mj_icmp_ge (tgt := 64) (q := 50) dX1_skiOn_47 (by decide) rfl (fun c_47 => ?_) (fun c_47 => absurd hge c_47)
        refine mj_aload_n (i := 0) (q := 65) dX1_skiOn_64 rfl rfl rfl ?_
        refine mj_dup (q := 66) rfl dX1_skiOn_65 rfl ?_
        refine mj_getfv (q := 69) dX1_skiOn_66 fl_X1_66 rfl rfl (by assumption) (by assumption) ?_
        refine mj_iload_n (i := 2) (q := 70) dX1_skiOn_69 rfl rfl rfl ?_
        refine mj_num2 (v := 40) (q := 72) (by decide) dX1_skiOn_70 rfl ?_
        refine mj_aload_n (i := 1) (q := 73) dX1_skiOn_72 rfl rfl rfl ?_
        refine mj_getfv (q := 76) dX1_skiOn_73 fl_X1_99 rfl rfl (by assumption) (by assumption) ?_
        refine mj_imul (q := 77) dX1_skiOn_76 rfl ?_
        refine mj_icmp_le (tgt := 84) (q := 80) dX1_skiOn_77 (by decide) rfl (fun c_77 => ?_) (fun c_77 => ?_)
        · refine mj_num1 (v := 0) (q := 85) rfl dX1_skiOn_84 rfl ?_
          refine mj_cSN1i (K := m_X5_oneIf) (q := 88) dX1_skiOn_85 (fun _ z => z.2.2.1) ok_X5_oneIf (Nat.le_of_ble_eq_true rfl) (by decide) rfl (s_oneIf) (fun r_85 h1 hq => ?_)
          obtain ⟨rfl, rfl⟩ := hq
          refine mj_iadd (q := 89) dX1_skiOn_88 rfl ?_
          refine mj_putf (q := 92) dX1_skiOn_89 fl_X1_66 rfl rfl (by assumption) rfl rfl rfl ?_
          refine mj_aload_n (i := 0) (q := 93) dX1_skiOn_92 rfl rfl rfl ?_
          refine mj_dup (q := 94) rfl dX1_skiOn_93 rfl ?_
          refine mj_getf (q := 97) dX1_skiOn_94 fl_X1_66 rfl rfl (by assumption) ?_
          refine mj_top mj_upe ?_
          refine mj_iload_n (i := 3) (q := 98) dX1_skiOn_97 rfl rfl rfl ?_
          refine mj_if_eq (tgt := 108) (q := 101) dX1_skiOn_98 (by decide) rfl (fun c_98 => ?_) (fun c_98 => ?_)
          · refine mj_num1 (v := 0) (q := 109) rfl dX1_skiOn_108 rfl ?_
            refine mj_iadd (q := 110) dX1_skiOn_109 rfl ?_
            refine mj_putf (q := 113) dX1_skiOn_110 fl_X1_66 rfl rfl (by assumption) rfl rfl rfl ?_
            have hM2 := (hM1.put (k0 := 13) (v := mu 13 + v01 0) (by omega)).put (k0 := 13) (v := mu 13 + v01 0 + 0) (by omega)
            rw [upd_upd] at hM2
            have e : wSkiMu riders mu (rs i) = upd mu 13 (mu 13 + v01 0 + 0) := by
              unfold wSkiMu
              rw [if_pos c_77, if_neg (by rw [hcr.mp c_98]; simp)]
              rfl
            refine mj_return dX1_skiOn_113 rfl ⟨rfl, _, rfl, ?_, ?_⟩
            · rw [e]; exact hM2
            · repeat (first | exact hF.wide (by omega) (by omega) | refine mj_Fr.up ?_ (by omega) (by omega))
          · refine mj_iload_n (i := 2) (q := 102) dX1_skiOn_101 rfl rfl rfl ?_
            refine mj_num2 (v := 50) (q := 104) (by decide) dX1_skiOn_102 rfl ?_
            refine mj_idiv (q := 105) (by decide) dX1_skiOn_104 rfl ?_
            refine mj_goto (q := 109) dX1_skiOn_105 (by decide) ?_
            refine mj_iadd (q := 110) dX1_skiOn_109 rfl ?_
            refine mj_putf (q := 113) dX1_skiOn_110 fl_X1_66 rfl rfl (by assumption) rfl rfl rfl ?_
            have hM2 := (hM1.put (k0 := 13) (v := mu 13 + v01 0) (by omega)).put (k0 := 13) (v := mu 13 + v01 0 + riders / 50) (by omega)
            rw [upd_upd] at hM2
            have e : wSkiMu riders mu (rs i) = upd mu 13 (mu 13 + v01 0 + riders / 50) := by
              unfold wSkiMu
              rw [if_pos c_77, if_pos (by simpa using mt hcr.mpr c_98)]
              rfl
            refine mj_return dX1_skiOn_113 rfl ⟨rfl, _, rfl, ?_, ?_⟩
            · rw [e]; exact hM2
            · repeat (first | exact hF.wide (by omega) (by omega) | refine mj_Fr.up ?_ (by omega) (by omega))
        · refine mj_num1 (v := 1) (q := 81) rfl dX1_skiOn_80 rfl ?_
          refine mj_goto (q := 85) dX1_skiOn_81 (by decide) ?_
          refine mj_cSN1i (K := m_X5_oneIf) (q := 88) dX1_skiOn_85 (fun _ z => z.2.2.1) ok_X5_oneIf (Nat.le_of_ble_eq_true rfl) (by decide) rfl (s_oneIf) (fun r_85 h1 hq => ?_)
          obtain ⟨rfl, rfl⟩ := hq
          refine mj_iadd (q := 89) dX1_skiOn_88 rfl ?_
          refine mj_putf (q := 92) dX1_skiOn_89 fl_X1_66 rfl rfl (by assumption) rfl rfl rfl ?_
          refine mj_aload_n (i := 0) (q := 93) dX1_skiOn_92 rfl rfl rfl ?_
          refine mj_dup (q := 94) rfl dX1_skiOn_93 rfl ?_
          refine mj_getf (q := 97) dX1_skiOn_94 fl_X1_66 rfl rfl (by assumption) ?_
          refine mj_top mj_upe ?_
          refine mj_iload_n (i := 3) (q := 98) dX1_skiOn_97 rfl rfl rfl ?_
          refine mj_if_eq (tgt := 108) (q := 101) dX1_skiOn_98 (by decide) rfl (fun c_98 => ?_) (fun c_98 => ?_)
          · refine mj_num1 (v := 0) (q := 109) rfl dX1_skiOn_108 rfl ?_
            refine mj_iadd (q := 110) dX1_skiOn_109 rfl ?_
            refine mj_putf (q := 113) dX1_skiOn_110 fl_X1_66 rfl rfl (by assumption) rfl rfl rfl ?_
            have hM2 := (hM1.put (k0 := 13) (v := mu 13 + v01 1) (by omega)).put (k0 := 13) (v := mu 13 + v01 1 + 0) (by omega)
            rw [upd_upd] at hM2
            have e : wSkiMu riders mu (rs i) = upd mu 13 (mu 13 + v01 1 + 0) := by
              unfold wSkiMu
              rw [if_neg c_77, if_neg (by rw [hcr.mp c_98]; simp)]
              rfl
            refine mj_return dX1_skiOn_113 rfl ⟨rfl, _, rfl, ?_, ?_⟩
            · rw [e]; exact hM2
            · repeat (first | exact hF.wide (by omega) (by omega) | refine mj_Fr.up ?_ (by omega) (by omega))
          · refine mj_iload_n (i := 2) (q := 102) dX1_skiOn_101 rfl rfl rfl ?_
            refine mj_num2 (v := 50) (q := 104) (by decide) dX1_skiOn_102 rfl ?_
            refine mj_idiv (q := 105) (by decide) dX1_skiOn_104 rfl ?_
            refine mj_goto (q := 109) dX1_skiOn_105 (by decide) ?_
            refine mj_iadd (q := 110) dX1_skiOn_109 rfl ?_
            refine mj_putf (q := 113) dX1_skiOn_110 fl_X1_66 rfl rfl (by assumption) rfl rfl rfl ?_
            have hM2 := (hM1.put (k0 := 13) (v := mu 13 + v01 1) (by omega)).put (k0 := 13) (v := mu 13 + v01 1 + riders / 50) (by omega)
            rw [upd_upd] at hM2
            have e : wSkiMu riders mu (rs i) = upd mu 13 (mu 13 + v01 1 + riders / 50) := by
              unfold wSkiMu
              rw [if_neg c_77, if_pos (by simpa using mt hcr.mpr c_98)]
              rfl
            refine mj_return dX1_skiOn_113 rfl ⟨rfl, _, rfl, ?_, ?_⟩
            · rw [e]; exact hM2
            · repeat (first | exact hF.wide (by omega) (by omega) | refine mj_Fr.up ?_ (by omega) (by omega))
      | succ j ih =>
        intro t f1 z ht hR hz hF
        have hlt : ¬ ((rs i).2 8 + riders) / 200 - (rs i).2 8 / 200 ≤ nI t := mj_clampGt (by omega)
        refine mj_iload (i := 5) (q := 45) dX1_skiOn_43 rfl rfl ?_
        refine mj_iload (i := 4) (q := 47) dX1_skiOn_45 rfl rfl ?_
        refine mj_icmp_ge (tgt := 64) (q := 50) dX1_skiOn_47 (by decide) rfl (fun c_47 => absurd c_47 hlt) (fun c_47 => ?_)
        refine mj_aload_n (i := 1) (q := 51) dX1_skiOn_50 rfl rfl rfl ?_
        refine mj_getr (q := 54) dX1_skiOn_51 fl_X1_89 rfl rfl (by assumption) (by assumption) ?_
        refine mj_num1 (v := 1) (q := 55) rfl dX1_skiOn_54 rfl ?_
        refine mj_cV1v (K := m_X3_thin) (q := 58) dX1_skiOn_55 ln_X1_227 ok_X3_thin (Nat.le_of_ble_eq_true rfl) (by decide) (by assumption) rfl rfl (s_thin hL_i.2.2 hR.1) (fun h1 hq => ?_)
        obtain ⟨f2, rfl, hS2, hF2⟩ := hq
        refine mj_iinc (i := 5) (q := 61) dX1_skiOn_58 rfl rfl (by decide) rfl ?_
        dsimp only [List.set]
        refine mj_goto (q := 43) dX1_skiOn_61 (by decide) ?_
        rw [show nI t + Int32.ofInt 1 = nI (t + 1) from nI_1 t]
        exact ih (t + 1) f2 _ (by omega) (hR.snow hS2 hF2) (by rw [hz, vThinN]) (hF.tr (hF2.wide (by omega) (by omega)))
    refine mj_aload_n (i := 1) (q := 10) dX1_skiOn_9 rfl rfl rfl ?_
    refine mj_getfv (q := 13) dX1_skiOn_10 fl_X1_224 rfl rfl (by assumption) (by assumption) ?_
    refine mj_iload_n (i := 2) (q := 14) dX1_skiOn_13 rfl rfl rfl ?_
    refine mj_iadd (q := 15) dX1_skiOn_14 rfl ?_
    refine mj_num3 (v := 200) (q := 18) (by decide) dX1_skiOn_15 rfl ?_
    refine mj_idiv (q := 19) (by decide) dX1_skiOn_18 rfl ?_
    refine mj_aload_n (i := 1) (q := 20) dX1_skiOn_19 rfl rfl rfl ?_
    refine mj_getfv (q := 23) dX1_skiOn_20 fl_X1_224 rfl rfl (by assumption) (by assumption) ?_
    refine mj_num3 (v := 200) (q := 26) (by decide) dX1_skiOn_23 rfl ?_
    refine mj_idiv (q := 27) (by decide) dX1_skiOn_26 rfl ?_
    refine mj_isub (q := 28) dX1_skiOn_27 rfl ?_
    refine mj_istore (i := 4) (q := 30) dX1_skiOn_28 rfl (by decide) rfl ?_
    dsimp only [List.set]
    refine mj_aload_n (i := 1) (q := 31) dX1_skiOn_30 rfl rfl rfl ?_
    refine mj_dup (q := 32) rfl dX1_skiOn_31 rfl ?_
    refine mj_getfv (q := 35) dX1_skiOn_32 fl_X1_224 rfl rfl (by assumption) (by assumption) ?_
    refine mj_iload_n (i := 2) (q := 36) dX1_skiOn_35 rfl rfl rfl ?_
    refine mj_iadd (q := 37) dX1_skiOn_36 rfl ?_
    refine mj_putf (q := 40) dX1_skiOn_37 fl_X1_224 rfl rfl (by assumption) rfl rfl rfl ?_
    refine mj_num1 (v := nI 0) (q := 41) (by decide) dX1_skiOn_40 rfl ?_
    refine mj_istore (i := 5) (q := 43) dX1_skiOn_41 rfl (by decide) rfl ?_
    dsimp only [List.set]
    exact key (((rs i).2 8 + riders) / 200 - (rs i).2 8 / 200).toNatClampNeg 0 _ (rs i).1 (Nat.zero_add _) (hR_i.put (k0 := 8) (v := (rs i).2 8 + riders) (by omega)) rfl (mj_Fr.up mj_Fr.rf (by omega) (by omega))
  refine mj_entry (by refine ⟨by decide +kernel, by decide, rfl, Nat.le_of_ble_eq_true rfl⟩) ?_
  show mj_W _ _ _ _ _ 0 [.ref m, .ref (m + 7 + 5 * i), .int riders, .null, .null, .null] [] _
  refine mj_aload_n (i := 1) (q := 1) dX1_skiOn_0 rfl rfl rfl ?_
  refine mj_getr (q := 4) dX1_skiOn_1 fl_X1_89 rfl rfl (by assumption) (by assumption) ?_
  refine mj_num1 (v := 2) (q := 5) rfl dX1_skiOn_4 rfl ?_
  refine mj_cV1i (K := m_X3_topIs) (q := 8) dX1_skiOn_5 ln_X1_200 ok_X3_topIs (Nat.le_of_ble_eq_true rfl) (by decide) (by assumption) rfl rfl (s_topIs hL_i.2.2 hR_i.1) (fun r_5 h1 hq => ?_)
  obtain ⟨rfl, hr⟩ := hq
  refine mj_istore_n (i := 3) (q := 9) dX1_skiOn_8 rfl rfl (by decide) rfl ?_
  dsimp only [List.set]
  exact main _ (by rw [hr]; exact mj_i01)
set_option maxHeartbeats 4000000 in
set_option maxRecDepth 100000 in
theorem s_shareOut {d m : Nat} {l taken op : Int32} {n : Nat} {K : Nat → mj_K} {f : Nat → Nat → Int32} {g : Nat → Nat → Option Nat} {y : mV} (hL : LMn K g m) (hN : MN f m y) (ho : 1 ≤ op) : mj_Cv m_X1_shareOut (d + 2) [.ref m, .int l, .int taken, .int op] (n, K, f, g) (fun h1 => ∃ f1, h1 = (n, K, f1, g) ∧ MN f1 m (y.1, y.2.1, (vShareN l (taken / op) (taken % op) y.2.2.1 y.2.2.2.2 y.2.1).1, y.2.2.2.1, (vShareN l (taken / op) (taken % op) y.2.2.1 y.2.2.2.2 y.2.1).2.1) ∧ mj_Fr m (m + 47) f f1) := by
  have hL2 := hL
  have hN2 := hN
  obtain ⟨km, gm0, gm1, km1, km6, hLl, hLr⟩ := hL
  obtain ⟨lc, rc, mu, ls, rs⟩ := y
  obtain ⟨n1, n2, n3, n4, n5, n6, n7, n8⟩ := hN
  dsimp only at n1 n2 n3 n4 n5 n6 n7 n8
  have hop : ¬ op = 0 := fun z => by rw [z] at ho; exact absurd ho (by decide)
  have key : ∀ (j i : Nat) (f1 : Nat → Nat → Int32) (ex : Int32), i + j = rc → ex = (vShareN l (taken / op) (taken % op) mu rs i).2.2 → MN f1 m (lc, rc, (vShareN l (taken / op) (taken % op) mu rs i).1, ls, (vShareN l (taken / op) (taken % op) mu rs i).2.1) → mj_Fr m (m + 47) f f1 → mj_W m_X1_shareOut (d + 2) 0 0 (fun v h1 => v = none ∧ ∃ f1, h1 = (n, K, f1, g) ∧ MN f1 m (lc, rc, (vShareN l (taken / op) (taken % op) mu rs rc).1, ls, (vShareN l (taken / op) (taken % op) mu rs rc).2.1) ∧ mj_Fr m (m + 47) f f1) 14 [.ref m, .int l, .int taken, .int op, .int ex, .int (nI i)] [] (n, K, f1, g) := by
    intro j
    induction j with
    | zero =>
      intro i f1 ex hi hex hM hF
      have hi : i = rc := by omega
      subst hi
      have o4 : f1 m 3 = nI i := hM.2.2.2.1
      refine mj_iload (i := 5) (q := 16) dX1_shareOut_14 rfl rfl ?_
      refine mj_aload_n (i := 0) (q := 17) dX1_shareOut_16 rfl rfl rfl ?_
      refine mj_getfv (q := 20) dX1_shareOut_17 fl_X1_42 rfl rfl (by assumption) (by assumption) ?_
      refine mj_icmp_ge (tgt := 76) (q := 23) dX1_shareOut_20 (by decide) rfl (fun c_20 => ?_) (fun c_20 => absurd (Int32.le_refl _) c_20)
      exact mj_return dX1_shareOut_76 rfl ⟨rfl, ⟨_, rfl, hM, hF⟩⟩
    | succ j ih =>
      intro i f1 ex hi hex hM hF
      have o4 : f1 m 3 = nI rc := hM.2.2.2.1
      have ev : (vShareN l (taken / op) (taken % op) mu rs i).2.1 i = rs i := vShareN_ge (Nat.le_refl i)
      have o7 : ∀ k, k < rc → RN f1 (m + 7 + 5 * k) ((vShareN l (taken / op) (taken % op) mu rs i).2.1 k) := hM.2.2.2.2.2.2.1
      have hg_i : g (m + 6) i = some (m + 7 + 5 * i) := (hLr i (by omega)).1
      have hL_i := (hLr i (by omega)).2
      have kr_i : K (m + 7 + 5 * i) = (2, 2, 0) := hL_i.1
      have gr_i : g (m + 7 + 5 * i) 0 = some ((m + 7 + 5 * i) + 1) := hL_i.2.1
      have ks_i : K ((m + 7 + 5 * i) + 1) = (2, 3, 0) := hL_i.2.2.1
      have hR_i := o7 i (by omega)
      rw [ev] at hR_i
      have e15 : f1 (m + 7 + 5 * i) 15 = (rs i).2 15 := hR_i.2.1 15 (by omega) (by omega)
      have e1 : f1 (m + 7 + 5 * i) 1 = (rs i).2 1 := hR_i.2.1 1 (by omega) (by omega)
      refine mj_iload (i := 5) (q := 16) dX1_shareOut_14 rfl rfl ?_
      refine mj_aload_n (i := 0) (q := 17) dX1_shareOut_16 rfl rfl rfl ?_
      refine mj_getfv (q := 20) dX1_shareOut_17 fl_X1_42 rfl rfl (by assumption) (by assumption) ?_
      refine mj_icmp_ge (tgt := 76) (q := 23) dX1_shareOut_20 (by decide) rfl (fun c_20 => absurd c_20 (nI_ge (a := i) (b := rc) (by omega) (by omega))) (fun c_20 => ?_)
      refine mj_aload_n (i := 0) (q := 24) dX1_shareOut_23 rfl rfl rfl ?_
      refine mj_getr (q := 27) dX1_shareOut_24 fl_X1_20 rfl rfl (by assumption) (by assumption) ?_
      refine mj_iload (i := 5) (q := 29) dX1_shareOut_27 rfl rfl ?_
      refine mj_aaldn (q := 30) dX1_shareOut_29 rfl (by assumption) ⟨by omega, by omega⟩ (by assumption) ?_
      refine mj_getfv (q := 33) dX1_shareOut_30 fl_X1_78 rfl rfl (by assumption) (by assumption) ?_
      refine mj_if_eq (tgt := 70) (q := 36) dX1_shareOut_33 (by decide) rfl (fun c_33 => ?_) (fun c_33 => ?_)
      · refine mj_iinc (i := 5) (q := 73) dX1_shareOut_70 rfl rfl (by decide) rfl ?_
        dsimp only [List.set]
        refine mj_goto (q := 14) dX1_shareOut_73 (by decide) ?_
        rw [show nI i + Int32.ofInt 1 = nI (i + 1) from nI_1 i]
        have e : vShareN l (taken / op) (taken % op) mu rs (i + 1) = vShareN l (taken / op) (taken % op) mu rs i := by rw [vShareN]; exact if_neg (fun z => z.1 c_33)
        exact ih (i + 1) f1 ex (by omega) (by rw [e]; exact hex) (by rw [e]; exact hM) hF
      · refine mj_aload_n (i := 0) (q := 37) dX1_shareOut_36 rfl rfl rfl ?_
        refine mj_getr (q := 40) dX1_shareOut_37 fl_X1_20 rfl rfl (by assumption) (by assumption) ?_
        refine mj_iload (i := 5) (q := 42) dX1_shareOut_40 rfl rfl ?_
        refine mj_aaldn (q := 43) dX1_shareOut_42 rfl (by assumption) ⟨by omega, by omega⟩ (by assumption) ?_
        refine mj_getfv (q := 46) dX1_shareOut_43 fl_X1_86 rfl rfl (by assumption) (by assumption) ?_
        refine mj_iload_n (i := 1) (q := 47) dX1_shareOut_46 rfl rfl rfl ?_
        refine mj_icmp_ne (tgt := 70) (q := 50) dX1_shareOut_47 (by decide) rfl (fun c_47 => ?_) (fun c_47 => ?_)
        · refine mj_iinc (i := 5) (q := 73) dX1_shareOut_70 rfl rfl (by decide) rfl ?_
          dsimp only [List.set]
          refine mj_goto (q := 14) dX1_shareOut_73 (by decide) ?_
          rw [show nI i + Int32.ofInt 1 = nI (i + 1) from nI_1 i]
          have e : vShareN l (taken / op) (taken % op) mu rs (i + 1) = vShareN l (taken / op) (taken % op) mu rs i := by rw [vShareN]; exact if_neg (fun z => c_47 z.2)
          exact ih (i + 1) f1 ex (by omega) (by rw [e]; exact hex) (by rw [e]; exact hM) hF
        · refine mj_aload_n (i := 0) (q := 51) dX1_shareOut_50 rfl rfl rfl ?_
          refine mj_aload_n (i := 0) (q := 52) dX1_shareOut_51 rfl rfl rfl ?_
          refine mj_getr (q := 55) dX1_shareOut_52 fl_X1_20 rfl rfl (by assumption) (by assumption) ?_
          refine mj_iload (i := 5) (q := 57) dX1_shareOut_55 rfl rfl ?_
          refine mj_aaldn (q := 58) dX1_shareOut_57 rfl (by assumption) ⟨by omega, by omega⟩ (by assumption) ?_
          refine mj_iload_n (i := 2) (q := 59) dX1_shareOut_58 rfl rfl rfl ?_
          refine mj_iload_n (i := 3) (q := 60) dX1_shareOut_59 rfl rfl rfl ?_
          refine mj_idiv (q := 61) hop dX1_shareOut_60 rfl ?_
          refine mj_iload (i := 4) (q := 63) dX1_shareOut_61 rfl rfl ?_
          refine mj_iadd (q := 64) dX1_shareOut_63 rfl ?_
          refine mj_cV2v (K := m_X1_skiOn) (q := 67) dX1_shareOut_64 ln_X1_221 ok_X1_skiOn (Nat.le_of_ble_eq_true rfl) (by decide) (by assumption) rfl rfl (s_skiOn hL2 hM (i := i) (by show i < rc; omega)) (fun h1 hq => ?_)
          obtain ⟨f2, rfl, hM2, hF2⟩ := hq
          dsimp only at hM2
          rw [ev] at hM2
          refine mj_num1 (v := 0) (q := 68) rfl dX1_shareOut_67 rfl ?_
          refine mj_istore (i := 4) (q := 70) dX1_shareOut_68 rfl (by decide) rfl ?_
          dsimp only [List.set]
          refine mj_iinc (i := 5) (q := 73) dX1_shareOut_70 rfl rfl (by decide) rfl ?_
          dsimp only [List.set]
          refine mj_goto (q := 14) dX1_shareOut_73 (by decide) ?_
          rw [show nI i + Int32.ofInt 1 = nI (i + 1) from nI_1 i]
          have e : vShareN l (taken / op) (taken % op) mu rs (i + 1) = (wSkiMu (taken / op + ex) (vShareN l (taken / op) (taken % op) mu rs i).1 (rs i), mj_row (vShareN l (taken / op) (taken % op) mu rs i).2.1 i (vSkiRun (taken / op + ex) (rs i)), 0) := by rw [vShareN, hex]; exact if_pos ⟨c_33, c_47⟩
          exact ih (i + 1) f2 0 (by omega) (by rw [e]) (by rw [e]; exact hM2) (hF.tr hF2)
  refine mj_entry (by refine ⟨by decide +kernel, by decide, rfl, Nat.le_of_ble_eq_true rfl⟩) ?_
  show mj_W _ _ _ _ _ 0 [.ref m, .int l, .int taken, .int op, .null, .null] [] _
  refine mj_iload_n (i := 3) (q := 1) dX1_shareOut_0 rfl rfl rfl ?_
  refine mj_num1 (v := 1) (q := 2) rfl dX1_shareOut_1 rfl ?_
  refine mj_icmp_ge (tgt := 6) (q := 5) dX1_shareOut_2 (by decide) rfl (fun c_2 => ?_) (fun c_2 => absurd ho c_2)
  refine mj_iload_n (i := 2) (q := 7) dX1_shareOut_6 rfl rfl rfl ?_
  refine mj_iload_n (i := 3) (q := 8) dX1_shareOut_7 rfl rfl rfl ?_
  refine mj_irem (q := 9) hop dX1_shareOut_8 rfl ?_
  refine mj_istore (i := 4) (q := 11) dX1_shareOut_9 rfl (by decide) rfl ?_
  dsimp only [List.set]
  refine mj_num1 (v := nI 0) (q := 12) (by decide) dX1_shareOut_11 rfl ?_
  refine mj_istore (i := 5) (q := 14) dX1_shareOut_12 rfl (by decide) rfl ?_
  dsimp only [List.set]
  exact key rc 0 f _ (by omega) rfl hN2 mj_Fr.rf
theorem mj_lt1 {x : Int32} (h : 0 < x) : 1 ≤ x := by
  have h1 := Int32.lt_iff_toInt_lt.mp h
  rw [Int32.le_iff_toInt_le]
  have h0 : (0 : Int32).toInt = 0 := by decide
  have h2 : (1 : Int32).toInt = 1 := by decide
  omega
set_option maxHeartbeats 4000000 in
set_option maxRecDepth 100000 in
theorem s_carrySkiers {d m : Nat} {n : Nat} {K : Nat → mj_K} {f : Nat → Nat → Int32} {g : Nat → Nat → Option Nat} {y : mV} (hL : LMn K g m) (hN : MN f m y) : mj_Cv m_X1_carrySkiers (d + 3) [.ref m] (n, K, f, g) (fun h1 => ∃ f1, h1 = (n, K, f1, g) ∧ MN f1 m (y.1, y.2.1, (vCarryS (vCarryN y.2.1 y.2.2.1 y.2.2.2.1 y.2.2.2.2 (y.2.2.1 9) y.1)).1, (vCarryS (vCarryN y.2.1 y.2.2.1 y.2.2.2.1 y.2.2.2.2 (y.2.2.1 9) y.1)).2.1, (vCarryS (vCarryN y.2.1 y.2.2.1 y.2.2.2.1 y.2.2.2.2 (y.2.2.1 9) y.1)).2.2) ∧ mj_Fr m (m + 47) f f1) := by
  have hL2 := hL
  have hN2 := hN
  obtain ⟨km, gm0, gm1, km1, km6, hLl, hLr⟩ := hL
  obtain ⟨lc, rc, mu, ls, rs⟩ := y
  obtain ⟨n1, n2, n3, n4, n5, n6, n7, n8⟩ := hN
  dsimp only at n1 n2 n3 n4 n5 n6 n7 n8
  have u9 : f m 9 = mu 9 := n5 9 (by omega) (by omega)
  have key : ∀ (j i : Nat) (f1 : Nat → Nat → Int32) (m1 : Nat → Int32) (l1 : Nat → Nat → Int32) (r1 : Nat → rV) (lf : Int32) (v3 v4 : Value), i + j = lc → vCarryN rc mu ls rs (mu 9) i = (m1, l1, r1, lf) → MN f1 m (lc, rc, m1, l1, r1) → mj_Fr m (m + 47) f f1 → mj_W m_X1_carrySkiers (d + 3) 0 0 (fun v h1 => v = none ∧ ∃ f1, h1 = (n, K, f1, g) ∧ MN f1 m (lc, rc, (vCarryS (vCarryN rc mu ls rs (mu 9) lc)).1, (vCarryS (vCarryN rc mu ls rs (mu 9) lc)).2.1, (vCarryS (vCarryN rc mu ls rs (mu 9) lc)).2.2) ∧ mj_Fr m (m + 47) f f1) 7 [.ref m, .int lf, .int (nI i), v3, v4] [] (n, K, f1, g) := by
    intro j
    induction j with
    | zero =>
      intro i f1 m1 l1 r1 lf v3 v4 hi hc hM hF
      have hi : i = lc := by omega
      subst hi
      have o3 : f1 m 2 = nI i := hM.2.2.1
      have v15 : f1 m 15 = m1 15 := hM.2.2.2.2.1 15 (by omega) (by omega)
      refine mj_iload_n (i := 2) (q := 8) dX1_carrySkiers_7 rfl rfl rfl ?_
      refine mj_aload_n (i := 0) (q := 9) dX1_carrySkiers_8 rfl rfl rfl ?_
      refine mj_getfv (q := 12) dX1_carrySkiers_9 fl_X1_35 rfl rfl (by assumption) (by assumption) ?_
      refine mj_icmp_ge (tgt := 98) (q := 15) dX1_carrySkiers_12 (by decide) rfl (fun c_12 => ?_) (fun c_12 => absurd (Int32.le_refl _) c_12)
      refine mj_aload_n (i := 0) (q := 99) dX1_carrySkiers_98 rfl rfl rfl ?_
      refine mj_dup (q := 100) rfl dX1_carrySkiers_99 rfl ?_
      refine mj_getfv (q := 103) dX1_carrySkiers_100 fl_X1_72 rfl rfl (by assumption) (by assumption) ?_
      refine mj_iload_n (i := 1) (q := 104) dX1_carrySkiers_103 rfl rfl rfl ?_
      refine mj_iadd (q := 105) dX1_carrySkiers_104 rfl ?_
      refine mj_putf (q := 108) dX1_carrySkiers_105 fl_X1_72 rfl rfl (by assumption) rfl rfl rfl ?_
      refine mj_return dX1_carrySkiers_108 rfl ⟨rfl, _, rfl, ?_, mj_Fr.up hF (by omega) (by omega)⟩
      rw [hc]
      exact hM.put (k0 := 15) (by omega)
    | succ j ih =>
      intro i f1 m1 l1 r1 lf v3 v4 hi hc hM hF
      have o3 : f1 m 2 = nI lc := hM.2.2.1
      have ev : l1 i = ls i := by have := vCarryN_ge (rc := rc) (mu := mu) (ls := ls) (rs := rs) (left := mu 9) (Nat.le_refl i); rw [hc] at this; exact this
      have o6 : ∀ k, k < lc → LN f1 (m + 2 + k) (l1 k) := hM.2.2.2.2.2.1
      have v14 : f1 m 14 = m1 14 := hM.2.2.2.2.1 14 (by omega) (by omega)
      have hl_i : g (m + 1) i = some (m + 2 + i) := (hLl i (by omega)).1
      have kl_i : K (m + 2 + i) = (2, 0, 0) := (hLl i (by omega)).2
      have hN_i := o6 i (by omega)
      rw [ev] at hN_i
      have l0 : f1 (m + 2 + i) 0 = ls i 0 := hN_i.1 0 (by omega)
      have l4 : f1 (m + 2 + i) 4 = ls i 4 := hN_i.1 4 (by omega)
      refine mj_iload_n (i := 2) (q := 8) dX1_carrySkiers_7 rfl rfl rfl ?_
      refine mj_aload_n (i := 0) (q := 9) dX1_carrySkiers_8 rfl rfl rfl ?_
      refine mj_getfv (q := 12) dX1_carrySkiers_9 fl_X1_35 rfl rfl (by assumption) (by assumption) ?_
      refine mj_icmp_ge (tgt := 98) (q := 15) dX1_carrySkiers_12 (by decide) rfl (fun c_12 => absurd c_12 (nI_ge (a := i) (b := lc) (by omega) (by omega))) (fun c_12 => ?_)
      refine mj_aload_n (i := 0) (q := 16) dX1_carrySkiers_15 rfl rfl rfl ?_
      refine mj_iload_n (i := 2) (q := 17) dX1_carrySkiers_16 rfl rfl rfl ?_
      refine mj_cV1i (K := m_X1_openRunsOf) (q := 20) dX1_carrySkiers_17 ln_X1_211 ok_X1_openRunsOf (Nat.le_of_ble_eq_true rfl) (by decide) (by assumption) rfl rfl (s_openRunsOf hL2 hM) (fun r_17 h1 hq => ?_)
      obtain ⟨rfl, rfl⟩ := hq
      refine mj_istore_n (i := 3) (q := 21) dX1_carrySkiers_20 rfl rfl (by decide) rfl ?_
      dsimp only [List.set]
      refine mj_aload_n (i := 0) (q := 22) dX1_carrySkiers_21 rfl rfl rfl ?_
      refine mj_getr (q := 25) dX1_carrySkiers_22 fl_X1_11 rfl rfl (by assumption) (by assumption) ?_
      refine mj_iload_n (i := 2) (q := 26) dX1_carrySkiers_25 rfl rfl rfl ?_
      refine mj_aaldn (q := 27) dX1_carrySkiers_26 rfl (by assumption) ⟨by omega, by omega⟩ (by assumption) ?_
      refine mj_cV0i (K := m_X0_isMoving) (q := 30) dX1_carrySkiers_27 ln_X1_128 ok_X0_isMoving (Nat.le_of_ble_eq_true rfl) (by decide) (by assumption) rfl rfl (s_isMoving kl_i hN_i) (fun r_27 h1 hq => ?_)
      obtain ⟨rfl, hr_27⟩ := hq
      refine mj_if_eq (tgt := 92) (q := 33) dX1_carrySkiers_30 (by decide) rfl (fun c_30 => ?_) (fun c_30 => ?_)
      · refine mj_iinc (i := 2) (q := 95) dX1_carrySkiers_92 rfl rfl (by decide) rfl ?_
        dsimp only [List.set]
        refine mj_goto (q := 7) dX1_carrySkiers_95 (by decide) ?_
        rw [show nI i + Int32.ofInt 1 = nI (i + 1) from nI_1 i]
        have hm0 : vMoving (ls i) = false := by rw [hr_27, mj_i01] at c_30; exact c_30
        have e : vCarryN rc mu ls rs (mu 9) (i + 1) = (m1, l1, r1, lf) := by rw [vCarryN, hc]; exact if_neg (fun z => absurd z.1 (by rw [hm0]; simp))
        exact ih (i + 1) f1 m1 l1 r1 lf _ _ (by omega) e hM hF
      · refine mj_iload_n (i := 3) (q := 34) dX1_carrySkiers_33 rfl rfl rfl ?_
        refine mj_if_le (tgt := 92) (q := 37) dX1_carrySkiers_34 (by decide) rfl (fun c_34 => ?_) (fun c_34 => ?_)
        · refine mj_iinc (i := 2) (q := 95) dX1_carrySkiers_92 rfl rfl (by decide) rfl ?_
          dsimp only [List.set]
          refine mj_goto (q := 7) dX1_carrySkiers_95 (by decide) ?_
          rw [show nI i + Int32.ofInt 1 = nI (i + 1) from nI_1 i]
          have e : vCarryN rc mu ls rs (mu 9) (i + 1) = (m1, l1, r1, lf) := by rw [vCarryN, hc]; exact if_neg (fun z => absurd c_34 (Int32.not_le.mpr z.2))
          exact ih (i + 1) f1 m1 l1 r1 lf _ _ (by omega) e hM hF
        · refine mj_aload_n (i := 0) (q := 38) dX1_carrySkiers_37 rfl rfl rfl ?_
          refine mj_getr (q := 41) dX1_carrySkiers_38 fl_X1_11 rfl rfl (by assumption) (by assumption) ?_
          refine mj_iload_n (i := 2) (q := 42) dX1_carrySkiers_41 rfl rfl rfl ?_
          refine mj_aaldn (q := 43) dX1_carrySkiers_42 rfl (by assumption) ⟨by omega, by omega⟩ (by assumption) ?_
          refine mj_getfv (q := 46) dX1_carrySkiers_43 fl_X1_214 rfl rfl (by assumption) (by assumption) ?_
          refine mj_iload_n (i := 1) (q := 47) dX1_carrySkiers_46 rfl rfl rfl ?_
          refine mj_mmin (q := 50) dX1_carrySkiers_47 ln_X1_194 (Nat.le_of_ble_eq_true rfl) rfl ?_
          refine mj_top (y := vMin (ls i 0) lf) rfl ?_
          refine mj_istore (i := 4) (q := 52) dX1_carrySkiers_50 rfl (by decide) rfl ?_
          dsimp only [List.set]
          refine mj_iload_n (i := 1) (q := 53) dX1_carrySkiers_52 rfl rfl rfl ?_
          refine mj_iload (i := 4) (q := 55) dX1_carrySkiers_53 rfl rfl ?_
          refine mj_isub (q := 56) dX1_carrySkiers_55 rfl ?_
          refine mj_istore_n (i := 1) (q := 57) dX1_carrySkiers_56 rfl rfl (by decide) rfl ?_
          dsimp only [List.set]
          refine mj_aload_n (i := 0) (q := 58) dX1_carrySkiers_57 rfl rfl rfl ?_
          refine mj_dup (q := 59) rfl dX1_carrySkiers_58 rfl ?_
          refine mj_getf (q := 62) dX1_carrySkiers_59 fl_X1_69 rfl rfl (by assumption) ?_
          refine mj_top (y := m1 14) v14 ?_
          refine mj_iload (i := 4) (q := 64) dX1_carrySkiers_62 rfl rfl ?_
          refine mj_iadd (q := 65) dX1_carrySkiers_64 rfl ?_
          refine mj_putf (q := 68) dX1_carrySkiers_65 fl_X1_69 rfl rfl (by assumption) rfl rfl rfl ?_
          refine mj_aload_n (i := 0) (q := 69) dX1_carrySkiers_68 rfl rfl rfl ?_
          refine mj_getr (q := 72) dX1_carrySkiers_69 fl_X1_11 rfl rfl (by assumption) (by assumption) ?_
          refine mj_iload_n (i := 2) (q := 73) dX1_carrySkiers_72 rfl rfl rfl ?_
          refine mj_aaldn (q := 74) dX1_carrySkiers_73 rfl (by assumption) ⟨by omega, by omega⟩ (by assumption) ?_
          refine mj_dup (q := 75) rfl dX1_carrySkiers_74 rfl ?_
          refine mj_getf (q := 78) dX1_carrySkiers_75 fl_X1_217 rfl rfl (by assumption) ?_
          refine mj_top (y := ls i 4) (by rw [mj_upn (by omega)]; exact l4) ?_
          refine mj_iload (i := 4) (q := 80) dX1_carrySkiers_78 rfl rfl ?_
          refine mj_iadd (q := 81) dX1_carrySkiers_80 rfl ?_
          refine mj_putf (q := 84) dX1_carrySkiers_81 fl_X1_217 rfl rfl (by assumption) rfl rfl rfl ?_
          have hM3 := hM.put (k0 := 14) (v := m1 14 + vMin (ls i 0) lf) (by omega)
          have hN3 : LN (mj_up f1 m 14 (m1 14 + vMin (ls i 0) lf)) (m + 2 + i) (ls i) := hN_i.keep (lo := m) (hi := m + 1) (mj_Fr.up mj_Fr.rf (by omega) (by omega)) (by omega)
          have hM4 := hM3.lift (by omega) (hN3.put (k0 := 4) (v := ls i 4 + vMin (ls i 0) lf) (Or.inl ⟨by omega, by omega⟩)) (mj_Fr.up mj_Fr.rf (by omega) (by omega))
          have hF4 := mj_Fr.up (a := m + 2 + i) (k := 4) (v := ls i 4 + vMin (ls i 0) lf) (mj_Fr.up (a := m) (k := 14) (v := m1 14 + vMin (ls i 0) lf) hF (by omega) (by omega)) (by omega) (by omega)
          refine mj_aload_n (i := 0) (q := 85) dX1_carrySkiers_84 rfl rfl rfl ?_
          refine mj_iload_n (i := 2) (q := 86) dX1_carrySkiers_85 rfl rfl rfl ?_
          refine mj_iload (i := 4) (q := 88) dX1_carrySkiers_86 rfl rfl ?_
          refine mj_iload_n (i := 3) (q := 89) dX1_carrySkiers_88 rfl rfl rfl ?_
          refine mj_cV3v (K := m_X1_shareOut) (q := 92) dX1_carrySkiers_89 ln_X1_218 ok_X1_shareOut (Nat.le_of_ble_eq_true rfl) (by decide) (by assumption) rfl rfl (s_shareOut hL2 hM4 (by have h1 := Int32.not_le.mp c_34; exact mj_lt1 h1)) (fun h1 hq => ?_)
          obtain ⟨f2, rfl, hM2, hF2⟩ := hq
          refine mj_iinc (i := 2) (q := 95) dX1_carrySkiers_92 rfl rfl (by decide) rfl ?_
          dsimp only [List.set]
          refine mj_goto (q := 7) dX1_carrySkiers_95 (by decide) ?_
          rw [show nI i + Int32.ofInt 1 = nI (i + 1) from nI_1 i]
          have hm1 : vMoving (ls i) = true := by rw [hr_27, mj_i01] at c_30; simpa using c_30
          have e : vCarryN rc mu ls rs (mu 9) (i + 1) = ((vShareN (nI i) (vMin (ls i 0) lf / vOpenOf r1 (nI i) rc) (vMin (ls i 0) lf % vOpenOf r1 (nI i) rc) (upd m1 14 (m1 14 + vMin (ls i 0) lf)) r1 rc).1, mj_row l1 i (upd (ls i) 4 (ls i 4 + vMin (ls i 0) lf)), (vShareN (nI i) (vMin (ls i 0) lf / vOpenOf r1 (nI i) rc) (vMin (ls i 0) lf % vOpenOf r1 (nI i) rc) (upd m1 14 (m1 14 + vMin (ls i 0) lf)) r1 rc).2.1, lf - vMin (ls i 0) lf) := by rw [vCarryN, hc]; exact if_pos ⟨hm1, Int32.not_le.mp c_34⟩
          exact ih (i + 1) f2 _ _ _ _ _ _ (by omega) e hM2 (hF4.tr hF2)
  refine mj_entry (by refine ⟨by decide +kernel, by decide, rfl, Nat.le_of_ble_eq_true rfl⟩) ?_
  show mj_W _ _ _ _ _ 0 [.ref m, .null, .null, .null, .null] [] _
  refine mj_aload_n (i := 0) (q := 1) dX1_carrySkiers_0 rfl rfl rfl ?_
  refine mj_getfv (q := 4) dX1_carrySkiers_1 fl_X1_54 rfl rfl (by assumption) (by assumption) ?_
  refine mj_istore_n (i := 1) (q := 5) dX1_carrySkiers_4 rfl rfl (by decide) rfl ?_
  dsimp only [List.set]
  refine mj_num1 (v := nI 0) (q := 6) (by decide) dX1_carrySkiers_5 rfl ?_
  refine mj_istore_n (i := 2) (q := 7) dX1_carrySkiers_6 rfl rfl (by decide) rfl ?_
  dsimp only [List.set]
  exact key lc 0 f mu ls rs (mu 9) _ _ (by omega) rfl hN2 mj_Fr.rf
