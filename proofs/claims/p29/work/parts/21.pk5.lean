/-! PISTEKEEPER: the commands -/
theorem MN.addLift {f f1 : Nat → Nat → Int32} {m lc rc : Nat} {mu : Nat → Int32} {ls : Nat → Nat → Int32} {rs : Nat → rV} {z : Nat → Int32} (h : MN f m (lc, rc, mu, ls, rs)) (hl : lc < 4) (hz : LN f1 (m + 2 + lc) z) (h2 : f1 m 2 = nI (lc + 1)) (hm : ∀ k, k ≠ 2 → f1 m k = f m k) (hf : ∀ a, a ≠ m → a ≠ m + 2 + lc → f1 a = f a) : MN f1 m (lc + 1, rc, mu, mj_row ls lc z, rs) := by
  obtain ⟨n1, n2, n3, n4, n5, n6, n7, n8⟩ := h
  dsimp only at n1 n2 n3 n4 n5 n6 n7 n8
  refine ⟨by dsimp only; omega, n2, h2, ?_, ?_, ?_, ?_, ?_⟩
  · rw [hm 3 (by decide)]; exact n4
  · intro k k1 k2
    rw [hm k (by omega)]; exact n5 k k1 k2
  · intro i hi
    dsimp only at hi ⊢
    by_cases e : i = lc
    · subst e; rw [mj_rowe]; exact hz
    · rw [mj_rown e]
      have q := n6 i (by omega)
      unfold LN at q ⊢
      rw [hf (m + 2 + i) (by omega) (by omega)]; exact q
  · intro i hi
    dsimp only at hi ⊢
    have q := n7 i hi
    unfold RN SN at q ⊢
    rw [hf (m + 7 + 5 * i) (by omega) (by omega), hf (m + 7 + 5 * i + 1) (by omega) (by omega), hf (m + 7 + 5 * i + 1 + 1) (by omega) (by omega), hf (m + 7 + 5 * i + 1 + 2) (by omega) (by omega), hf (m + 7 + 5 * i + 1 + 3) (by omega) (by omega)]
    exact q
  · intro i hi
    obtain ⟨j, hj, e⟩ := n8 i hi
    exact ⟨j, by dsimp only; omega, e⟩
theorem MN.addRun {f f1 : Nat → Nat → Int32} {m lc rc j0 : Nat} {mu : Nat → Int32} {ls : Nat → Nat → Int32} {rs : Nat → rV} {z : rV} (h : MN f m (lc, rc, mu, ls, rs)) (hl : rc < 8) (hz : RN f1 (m + 7 + 5 * rc) z) (h2 : f1 m 3 = nI (rc + 1)) (hj0 : j0 < lc) (hz1 : z.2 1 = nI j0) (hm : ∀ k, k ≠ 3 → f1 m k = f m k) (hf : ∀ a, a ≠ m → a ≠ m + 7 + 5 * rc → f1 a = f a) : MN f1 m (lc, rc + 1, mu, ls, mj_row rs rc z) := by
  obtain ⟨n1, n2, n3, n4, n5, n6, n7, n8⟩ := h
  dsimp only at n1 n2 n3 n4 n5 n6 n7 n8
  refine ⟨n1, by dsimp only; omega, ?_, h2, ?_, ?_, ?_, ?_⟩
  · rw [hm 2 (by decide)]; exact n3
  · intro k k1 k2
    rw [hm k (by omega)]; exact n5 k k1 k2
  · intro i hi
    dsimp only at hi ⊢
    have q := n6 i (by omega)
    unfold LN at q ⊢
    rw [hf (m + 2 + i) (by omega) (by omega)]; exact q
  · intro i hi
    dsimp only at hi ⊢
    by_cases e : i = rc
    · subst e; rw [mj_rowe]; exact hz
    · rw [mj_rown e]
      have q := n7 i (by omega)
      unfold RN SN at q ⊢
      rw [hf (m + 7 + 5 * i) (by omega) (by omega), hf (m + 7 + 5 * i + 1) (by omega) (by omega), hf (m + 7 + 5 * i + 1 + 1) (by omega) (by omega), hf (m + 7 + 5 * i + 1 + 2) (by omega) (by omega), hf (m + 7 + 5 * i + 1 + 3) (by omega) (by omega)]
      exact q
  · intro i hi
    dsimp only at hi ⊢
    by_cases e : i = rc
    · subst e; rw [mj_rowe]; exact ⟨j0, hj0, hz1⟩
    · rw [mj_rown e]; exact n8 i (by omega)
def vPutRun (y : mV) (i : Nat) (x : rV) : mV := (y.1, y.2.1, y.2.2.1, y.2.2.2.1, mj_row y.2.2.2.2 i x)
def vPutMu (y : mV) (mu : Nat → Int32) : mV := (y.1, y.2.1, mu, y.2.2.2.1, y.2.2.2.2)
def vPutLift (y : mV) (i : Nat) (z : Nat → Int32) : mV := (y.1, y.2.1, y.2.2.1, mj_row y.2.2.2.1 i z, y.2.2.2.2)
def vSet1 (x : rV) (k : Nat) (v : Int32) : rV := (x.1, upd x.2 k v)
def vNewRun (x : rV) (l h s a r : Int32) : rV := vSet1 (vSet1 (vSet1 (vSet1 (vSet1 x 1 l) 2 h) 3 s) 4 a) 5 r
def vNewLift (z : Nat → Int32) (cap lim : Int32) : Nat → Int32 := upd (upd z 0 cap) 1 lim
def vPassed (y : mV) (W : Nat → Int32) (hh : Nat) : mV := vIter W hh y
def vBlastDud (y : mV) : Bool := (50 - (y.2.2.1 7 - 1)) % 7 == 0
def vBlastV (y : mV) (i : Nat) : mV := if vBlastDud y = true then vPutRun (vPutMu y (upd y.2.2.1 7 (y.2.2.1 7 - 1))) i (vSet1 (y.2.2.2.2 i) 10 ((y.2.2.2.2 i).2 10 + 1)) else if 40 ≤ vRisk ((y.2.2.2.2 i).2 3) (y.2.2.2.2 i).1 then vPutRun (vPutMu y (vSlideMu (upd y.2.2.1 7 (y.2.2.1 7 - 1)) (vSlideSize (y.2.2.2.2 i)))) i (vSlideRun (y.2.2.2.2 i)) else vPutMu y (upd y.2.2.1 7 (y.2.2.1 7 - 1))
def vBlastR (y : mV) (i : Nat) : Int32 := if vBlastDud y = true then -2 else if 40 ≤ vRisk ((y.2.2.2.2 i).2 3) (y.2.2.2.2 i).1 then vSlideSize (y.2.2.2.2 i) else 0
def vTestV (y : mV) (i : Nat) : mV := vPutRun y i (vSet1 (vSet1 (y.2.2.2.2 i) 11 (vTell y.2.2.1 (nI i) (y.2.2.2.2 i))) 12 (y.2.2.1 4 + 12))
def vGroomV (y : mV) (i : Nat) : mV := vPutRun (vPutMu y (upd y.2.2.1 8 (y.2.2.1 8 - 5))) i (vPress (y.2.2.2.2 i).1, (y.2.2.2.2 i).2)
def vOpenV (y : mV) (i : Nat) : mV := if vBarNow y.2.2.1 y.2.2.2.1 (y.2.2.2.2 i) = 0 then vPutRun y i (vSet1 (vSet1 (y.2.2.2.2 i) 15 1) 13 (y.2.2.1 4)) else y

set_option maxHeartbeats 4000000 in
set_option maxRecDepth 100000 in
theorem s_turn {d x m i : Nat} {b : Int32} {n : Nat} {K : Nat → mj_K} {f : Nat → Nat → Int32} {g : Nat → Nat → Option Nat} {y : mV} (hP : LPn K g x m) (hN : MN f m y) (hi : i < y.1) (hb : b = 0 ∨ b = 1) : mj_Ci m_X5_turn (d + 1) [.ref x, .int (nI i), .int b] (n, K, f, g) (fun r h1 => r = y.2.2.2.1 i 2 ∧ ∃ f1, h1 = (n, K, f1, g) ∧ MN f1 m (vPutLift y i (upd (y.2.2.2.1 i) 2 b)) ∧ mj_Fr m (m + 47) f f1) := by
  have hP2 := hP
  have hN2 := hN
  obtain ⟨kx, hxm, gx0, gx1, gx2, gx3, hL, hLt, hLb, kw⟩ := hP
  have hL2 := hL
  obtain ⟨km, gm0, gm1, km1, km6, hLl, hLr⟩ := hL
  obtain ⟨lc, rc, mu, ls, rs⟩ := y
  obtain ⟨n1, n2, n3, n4, n5, n6, n7, n8⟩ := hN
  dsimp only at n1 n2 n3 n4 n5 n6 n7 n8
  have hi : i < lc := hi
  have hl_i : g (m + 1) i = some (m + 2 + i) := (hLl i (by omega)).1
  have kl_i : K (m + 2 + i) = (2, 0, 0) := (hLl i (by omega)).2
  have hN_i := n6 i (by omega)
  have l2_i : f (m + 2 + i) 2 = ls i 2 := hN_i.1 2 (by omega)
  refine mj_entry (by refine ⟨by decide +kernel, by decide, rfl, Nat.le_of_ble_eq_true rfl⟩) ?_
  show mj_W _ _ _ _ _ 0 [.ref x, .int (nI i), .int b, .null] [] _
  refine mj_aload_n (i := 0) (q := 1) dX5_turn_0 rfl rfl rfl ?_
  refine mj_iload_n (i := 1) (q := 2) dX5_turn_1 rfl rfl rfl ?_
  refine mj_cV1v (K := m_X5_requireLift) (q := 5) dX5_turn_2 ln_X5_56 ok_X5_requireLift (Nat.le_of_ble_eq_true rfl) (by decide) (by assumption) rfl rfl (s_reqLift hP2 hN2 hi) (fun h1 hq => ?_)
  obtain rfl := hq
  refine mj_aload_n (i := 0) (q := 6) dX5_turn_5 rfl rfl rfl ?_
  refine mj_getr (q := 9) dX5_turn_6 fl_X5_10 rfl rfl (by assumption) (by assumption) ?_
  refine mj_getr (q := 12) dX5_turn_9 fl_X5_44 rfl rfl (by assumption) (by assumption) ?_
  refine mj_iload_n (i := 1) (q := 13) dX5_turn_12 rfl rfl rfl ?_
  refine mj_aaldn (q := 14) dX5_turn_13 rfl (by assumption) ⟨by omega, by omega⟩ (by assumption) ?_
  refine mj_getfv (q := 17) dX5_turn_14 fl_X5_86 rfl rfl (by assumption) (by assumption) ?_
  refine mj_istore_n (i := 3) (q := 18) dX5_turn_17 rfl rfl (by decide) rfl ?_
  dsimp only [List.set]
  refine mj_aload_n (i := 0) (q := 19) dX5_turn_18 rfl rfl rfl ?_
  refine mj_getr (q := 22) dX5_turn_19 fl_X5_10 rfl rfl (by assumption) (by assumption) ?_
  refine mj_getr (q := 25) dX5_turn_22 fl_X5_44 rfl rfl (by assumption) (by assumption) ?_
  refine mj_iload_n (i := 1) (q := 26) dX5_turn_25 rfl rfl rfl ?_
  refine mj_aaldn (q := 27) dX5_turn_26 rfl (by assumption) ⟨by omega, by omega⟩ (by assumption) ?_
  refine mj_iload_n (i := 2) (q := 28) dX5_turn_27 rfl rfl rfl ?_
  refine mj_putf (q := 31) dX5_turn_28 fl_X5_86 rfl rfl (by assumption) rfl (mj_bool hb).1 (mj_bool hb).2 ?_
  refine mj_iload_n (i := 3) (q := 32) dX5_turn_31 rfl rfl rfl ?_
  exact mj_ireturn dX5_turn_32 ⟨_, rfl, (mj_bool hN_i.2.1).1⟩ ⟨_, rfl, rfl, _, rfl, hN2.lift hi (hN_i.put (k0 := 2) (v := b) (Or.inr hb)) (mj_Fr.up mj_Fr.rf (by omega) (by omega)), mj_Fr.up mj_Fr.rf (by omega) (by omega)⟩
set_option maxHeartbeats 4000000 in
set_option maxRecDepth 100000 in
theorem s_guns {d x m i : Nat} {v : Int32} {n : Nat} {K : Nat → mj_K} {f : Nat → Nat → Int32} {g : Nat → Nat → Option Nat} {y : mV} (hP : LPn K g x m) (hN : MN f m y) (hi : i < y.2.1) (h1 : 0 ≤ v) (h2 : v ≤ 9) : mj_Ci m_X5_guns (d + 1) [.ref x, .int (nI i), .int v] (n, K, f, g) (fun r h1 => r = (y.2.2.2.2 i).2 6 ∧ ∃ f1, h1 = (n, K, f1, g) ∧ MN f1 m (vPutRun y i (vSet1 (y.2.2.2.2 i) 6 v)) ∧ mj_Fr m (m + 47) f f1) := by
  have hP2 := hP
  have hN2 := hN
  obtain ⟨kx, hxm, gx0, gx1, gx2, gx3, hL, hLt, hLb, kw⟩ := hP
  have hL2 := hL
  obtain ⟨km, gm0, gm1, km1, km6, hLl, hLr⟩ := hL
  obtain ⟨lc, rc, mu, ls, rs⟩ := y
  obtain ⟨n1, n2, n3, n4, n5, n6, n7, n8⟩ := hN
  dsimp only at n1 n2 n3 n4 n5 n6 n7 n8
  have hi : i < rc := hi
  have hg_i : g (m + 6) i = some (m + 7 + 5 * i) := (hLr i (by omega)).1
  have hL_i := (hLr i (by omega)).2
  have kr_i : K (m + 7 + 5 * i) = (2, 2, 0) := hL_i.1
  have gr_i : g (m + 7 + 5 * i) 0 = some ((m + 7 + 5 * i) + 1) := hL_i.2.1
  have ks_i : K ((m + 7 + 5 * i) + 1) = (2, 3, 0) := hL_i.2.2.1
  have hR_i := n7 i (by omega)
  have e6_i : f (m + 7 + 5 * i) 6 = (rs i).2 6 := hR_i.2.1 6 (by omega) (by omega)
  refine mj_entry (by refine ⟨by decide +kernel, by decide, rfl, Nat.le_of_ble_eq_true rfl⟩) ?_
  show mj_W _ _ _ _ _ 0 [.ref x, .int (nI i), .int v, .null] [] _
  refine mj_aload_n (i := 0) (q := 1) dX5_guns_0 rfl rfl rfl ?_
  refine mj_iload_n (i := 1) (q := 2) dX5_guns_1 rfl rfl rfl ?_
  refine mj_cV1v (K := m_X5_requireRun) (q := 5) dX5_guns_2 ln_X5_98 ok_X5_requireRun (Nat.le_of_ble_eq_true rfl) (by decide) (by assumption) rfl rfl (s_reqRun hP2 hN2 hi) (fun h1 hq => ?_)
  obtain rfl := hq
  refine mj_iload_n (i := 2) (q := 6) dX5_guns_5 rfl rfl rfl ?_
  refine mj_num1 (v := 0) (q := 7) rfl dX5_guns_6 rfl ?_
  refine mj_num2 (v := 9) (q := 9) (by decide) dX5_guns_7 rfl ?_
  refine mj_cS3v (K := m_X5_requireWithin) (q := 12) dX5_guns_9 ln_X5_29 ok_X5_requireWithin (Nat.le_of_ble_eq_true rfl) (by decide) rfl (s_within (by assumption) (by assumption)) (fun h1 hq => ?_)
  obtain rfl := hq
  refine mj_aload_n (i := 0) (q := 13) dX5_guns_12 rfl rfl rfl ?_
  refine mj_getr (q := 16) dX5_guns_13 fl_X5_10 rfl rfl (by assumption) (by assumption) ?_
  refine mj_getr (q := 19) dX5_guns_16 fl_X5_65 rfl rfl (by assumption) (by assumption) ?_
  refine mj_iload_n (i := 1) (q := 20) dX5_guns_19 rfl rfl rfl ?_
  refine mj_aaldn (q := 21) dX5_guns_20 rfl (by assumption) ⟨by omega, by omega⟩ (by assumption) ?_
  refine mj_getfv (q := 24) dX5_guns_21 fl_X5_101 rfl rfl (by assumption) (by assumption) ?_
  refine mj_istore_n (i := 3) (q := 25) dX5_guns_24 rfl rfl (by decide) rfl ?_
  dsimp only [List.set]
  refine mj_aload_n (i := 0) (q := 26) dX5_guns_25 rfl rfl rfl ?_
  refine mj_getr (q := 29) dX5_guns_26 fl_X5_10 rfl rfl (by assumption) (by assumption) ?_
  refine mj_getr (q := 32) dX5_guns_29 fl_X5_65 rfl rfl (by assumption) (by assumption) ?_
  refine mj_iload_n (i := 1) (q := 33) dX5_guns_32 rfl rfl rfl ?_
  refine mj_aaldn (q := 34) dX5_guns_33 rfl (by assumption) ⟨by omega, by omega⟩ (by assumption) ?_
  refine mj_iload_n (i := 2) (q := 35) dX5_guns_34 rfl rfl rfl ?_
  refine mj_putf (q := 38) dX5_guns_35 fl_X5_101 rfl rfl (by assumption) rfl rfl rfl ?_
  refine mj_iload_n (i := 3) (q := 39) dX5_guns_38 rfl rfl rfl ?_
  exact mj_ireturn dX5_guns_39 ⟨_, rfl, rfl⟩ ⟨_, rfl, rfl, _, rfl, hN2.run hi (hR_i.put (k0 := 6) (v := v) (by omega)) (mj_Fr.up mj_Fr.rf (by omega) (by omega)) (by simp [upd, vSet1]), mj_Fr.up mj_Fr.rf (by omega) (by omega)⟩
set_option maxHeartbeats 4000000 in
set_option maxRecDepth 100000 in
theorem s_crowd {d x m : Nat} {v : Int32} {n : Nat} {K : Nat → mj_K} {f : Nat → Nat → Int32} {g : Nat → Nat → Option Nat} {y : mV} (hP : LPn K g x m) (hN : MN f m y) (h1 : 0 ≤ v) (h2 : v ≤ 5000) : mj_Ci m_X5_crowd (d + 1) [.ref x, .int v] (n, K, f, g) (fun r h1 => r = y.2.2.1 9 ∧ ∃ f1, h1 = (n, K, f1, g) ∧ MN f1 m (vPutMu y (upd y.2.2.1 9 v)) ∧ mj_Fr m (m + 47) f f1) := by
  have hP2 := hP
  have hN2 := hN
  obtain ⟨kx, hxm, gx0, gx1, gx2, gx3, hL, hLt, hLb, kw⟩ := hP
  have hL2 := hL
  obtain ⟨km, gm0, gm1, km1, km6, hLl, hLr⟩ := hL
  obtain ⟨lc, rc, mu, ls, rs⟩ := y
  obtain ⟨n1, n2, n3, n4, n5, n6, n7, n8⟩ := hN
  dsimp only at n1 n2 n3 n4 n5 n6 n7 n8
  have u9 : f m 9 = mu 9 := n5 9 (by omega) (by omega)
  refine mj_entry (by refine ⟨by decide +kernel, by decide, rfl, Nat.le_of_ble_eq_true rfl⟩) ?_
  show mj_W _ _ _ _ _ 0 [.ref x, .int v, .null] [] _
  refine mj_iload_n (i := 1) (q := 1) dX5_crowd_0 rfl rfl rfl ?_
  refine mj_num1 (v := 0) (q := 2) rfl dX5_crowd_1 rfl ?_
  refine mj_num3 (v := 5000) (q := 5) (by decide) dX5_crowd_2 rfl ?_
  refine mj_cS3v (K := m_X5_requireWithin) (q := 8) dX5_crowd_5 ln_X5_29 ok_X5_requireWithin (Nat.le_of_ble_eq_true rfl) (by decide) rfl (s_within (by assumption) (by assumption)) (fun h1 hq => ?_)
  obtain rfl := hq
  refine mj_aload_n (i := 0) (q := 9) dX5_crowd_8 rfl rfl rfl ?_
  refine mj_getr (q := 12) dX5_crowd_9 fl_X5_10 rfl rfl (by assumption) (by assumption) ?_
  refine mj_getfv (q := 15) dX5_crowd_12 fl_X5_113 rfl rfl (by assumption) (by assumption) ?_
  refine mj_istore_n (i := 2) (q := 16) dX5_crowd_15 rfl rfl (by decide) rfl ?_
  dsimp only [List.set]
  refine mj_aload_n (i := 0) (q := 17) dX5_crowd_16 rfl rfl rfl ?_
  refine mj_getr (q := 20) dX5_crowd_17 fl_X5_10 rfl rfl (by assumption) (by assumption) ?_
  refine mj_iload_n (i := 1) (q := 21) dX5_crowd_20 rfl rfl rfl ?_
  refine mj_putf (q := 24) dX5_crowd_21 fl_X5_113 rfl rfl (by assumption) rfl rfl rfl ?_
  refine mj_iload_n (i := 2) (q := 25) dX5_crowd_24 rfl rfl rfl ?_
  exact mj_ireturn dX5_crowd_25 ⟨_, rfl, rfl⟩ ⟨_, rfl, rfl, _, rfl, hN2.put (k0 := 9) (by omega), mj_Fr.up mj_Fr.rf (by omega) (by omega)⟩
set_option maxHeartbeats 4000000 in
set_option maxRecDepth 100000 in
theorem s_fill {d x m : Nat} {v : Int32} {n : Nat} {K : Nat → mj_K} {f : Nat → Nat → Int32} {g : Nat → Nat → Option Nat} {y : mV} (hP : LPn K g x m) (hN : MN f m y) (h1 : 1 ≤ v) (h2 : v ≤ 5000) : mj_Ci m_X5_fill (d + 1) [.ref x, .int v] (n, K, f, g) (fun r h1 => r = vMin (y.2.2.1 6 + v) 5000 ∧ ∃ f1, h1 = (n, K, f1, g) ∧ MN f1 m (vPutMu y (upd y.2.2.1 6 (vMin (y.2.2.1 6 + v) 5000))) ∧ mj_Fr m (m + 47) f f1) := by
  have hP2 := hP
  have hN2 := hN
  obtain ⟨kx, hxm, gx0, gx1, gx2, gx3, hL, hLt, hLb, kw⟩ := hP
  have hL2 := hL
  obtain ⟨km, gm0, gm1, km1, km6, hLl, hLr⟩ := hL
  obtain ⟨lc, rc, mu, ls, rs⟩ := y
  obtain ⟨n1, n2, n3, n4, n5, n6, n7, n8⟩ := hN
  dsimp only at n1 n2 n3 n4 n5 n6 n7 n8
  have u6 : f m 6 = mu 6 := n5 6 (by omega) (by omega)
  refine mj_entry (by refine ⟨by decide +kernel, by decide, rfl, Nat.le_of_ble_eq_true rfl⟩) ?_
  show mj_W _ _ _ _ _ 0 [.ref x, .int v] [] _
  refine mj_iload_n (i := 1) (q := 1) dX5_fill_0 rfl rfl rfl ?_
  refine mj_num1 (v := 1) (q := 2) rfl dX5_fill_1 rfl ?_
  refine mj_num3 (v := 5000) (q := 5) (by decide) dX5_fill_2 rfl ?_
  refine mj_cS3v (K := m_X5_requireWithin) (q := 8) dX5_fill_5 ln_X5_29 ok_X5_requireWithin (Nat.le_of_ble_eq_true rfl) (by decide) rfl (s_within (by assumption) (by assumption)) (fun h1 hq => ?_)
  obtain rfl := hq
  refine mj_aload_n (i := 0) (q := 9) dX5_fill_8 rfl rfl rfl ?_
  refine mj_getr (q := 12) dX5_fill_9 fl_X5_10 rfl rfl (by assumption) (by assumption) ?_
  refine mj_aload_n (i := 0) (q := 13) dX5_fill_12 rfl rfl rfl ?_
  refine mj_getr (q := 16) dX5_fill_13 fl_X5_10 rfl rfl (by assumption) (by assumption) ?_
  refine mj_getfv (q := 19) dX5_fill_16 fl_X5_104 rfl rfl (by assumption) (by assumption) ?_
  refine mj_iload_n (i := 1) (q := 20) dX5_fill_19 rfl rfl rfl ?_
  refine mj_iadd (q := 21) dX5_fill_20 rfl ?_
  refine mj_num3 (v := 5000) (q := 24) (by decide) dX5_fill_21 rfl ?_
  refine mj_mmin (q := 27) dX5_fill_24 ln_X5_107 (Nat.le_of_ble_eq_true rfl) rfl ?_
  refine mj_top (y := vMin (mu 6 + v) 5000) rfl ?_
  refine mj_putf (q := 30) dX5_fill_27 fl_X5_104 rfl rfl (by assumption) rfl rfl rfl ?_
  refine mj_aload_n (i := 0) (q := 31) dX5_fill_30 rfl rfl rfl ?_
  refine mj_getr (q := 34) dX5_fill_31 fl_X5_10 rfl rfl (by assumption) (by assumption) ?_
  refine mj_getf (q := 37) dX5_fill_34 fl_X5_104 rfl rfl (by assumption) ?_
  exact mj_ireturn dX5_fill_37 ⟨_, rfl, rfl⟩ ⟨_, rfl, by simp [mj_up], _, rfl, hN2.put (k0 := 6) (by omega), mj_Fr.up mj_Fr.rf (by omega) (by omega)⟩
set_option maxHeartbeats 4000000 in
set_option maxRecDepth 100000 in
theorem s_search {d x m i : Nat} {n : Nat} {K : Nat → mj_K} {f : Nat → Nat → Int32} {g : Nat → Nat → Option Nat} {y : mV} (hP : LPn K g x m) (hN : MN f m y) (hi : i < y.2.1) (h1 : 1 ≤ (y.2.2.2.2 i).2 10) : mj_Ci m_X5_search (d + 1) [.ref x, .int (nI i)] (n, K, f, g) (fun r h1 => r = (y.2.2.2.2 i).2 10 - 1 ∧ ∃ f1, h1 = (n, K, f1, g) ∧ MN f1 m (vPutRun y i (vSet1 (y.2.2.2.2 i) 10 ((y.2.2.2.2 i).2 10 - 1))) ∧ mj_Fr m (m + 47) f f1) := by
  have hP2 := hP
  have hN2 := hN
  obtain ⟨kx, hxm, gx0, gx1, gx2, gx3, hL, hLt, hLb, kw⟩ := hP
  have hL2 := hL
  obtain ⟨km, gm0, gm1, km1, km6, hLl, hLr⟩ := hL
  obtain ⟨lc, rc, mu, ls, rs⟩ := y
  obtain ⟨n1, n2, n3, n4, n5, n6, n7, n8⟩ := hN
  dsimp only at n1 n2 n3 n4 n5 n6 n7 n8
  have hi : i < rc := hi
  have h1 : 1 ≤ (rs i).2 10 := h1
  have hg_i : g (m + 6) i = some (m + 7 + 5 * i) := (hLr i (by omega)).1
  have hL_i := (hLr i (by omega)).2
  have kr_i : K (m + 7 + 5 * i) = (2, 2, 0) := hL_i.1
  have gr_i : g (m + 7 + 5 * i) 0 = some ((m + 7 + 5 * i) + 1) := hL_i.2.1
  have ks_i : K ((m + 7 + 5 * i) + 1) = (2, 3, 0) := hL_i.2.2.1
  have hR_i := n7 i (by omega)
  have e10_i : f (m + 7 + 5 * i) 10 = (rs i).2 10 := hR_i.2.1 10 (by omega) (by omega)
  refine mj_entry (by refine ⟨by decide +kernel, by decide, rfl, Nat.le_of_ble_eq_true rfl⟩) ?_
  show mj_W _ _ _ _ _ 0 [.ref x, .int (nI i), .null] [] _
  refine mj_aload_n (i := 0) (q := 1) dX5_search_0 rfl rfl rfl ?_
  refine mj_iload_n (i := 1) (q := 2) dX5_search_1 rfl rfl rfl ?_
  refine mj_cV1v (K := m_X5_requireRun) (q := 5) dX5_search_2 ln_X5_98 ok_X5_requireRun (Nat.le_of_ble_eq_true rfl) (by decide) (by assumption) rfl rfl (s_reqRun hP2 hN2 hi) (fun h1 hq => ?_)
  obtain rfl := hq
  refine mj_aload_n (i := 0) (q := 6) dX5_search_5 rfl rfl rfl ?_
  refine mj_getr (q := 9) dX5_search_6 fl_X5_10 rfl rfl (by assumption) (by assumption) ?_
  refine mj_getr (q := 12) dX5_search_9 fl_X5_65 rfl rfl (by assumption) (by assumption) ?_
  refine mj_iload_n (i := 1) (q := 13) dX5_search_12 rfl rfl rfl ?_
  refine mj_aaldn (q := 14) dX5_search_13 rfl (by assumption) ⟨by omega, by omega⟩ (by assumption) ?_
  refine mj_astore_n (i := 2) (q := 15) dX5_search_14 rfl rfl (by decide) rfl ?_
  dsimp only [List.set]
  refine mj_aload_n (i := 2) (q := 16) dX5_search_15 rfl rfl rfl ?_
  refine mj_getfv (q := 19) dX5_search_16 fl_X5_140 rfl rfl (by assumption) (by assumption) ?_
  refine mj_num1 (v := 1) (q := 20) rfl dX5_search_19 rfl ?_
  refine mj_icmp_ge (tgt := 33) (q := 23) dX5_search_20 (by decide) rfl (fun c_20 => ?_) (fun c_20 => absurd h1 c_20)
  refine mj_aload_n (i := 2) (q := 34) dX5_search_33 rfl rfl rfl ?_
  refine mj_dup (q := 35) rfl dX5_search_34 rfl ?_
  refine mj_getfv (q := 38) dX5_search_35 fl_X5_140 rfl rfl (by assumption) (by assumption) ?_
  refine mj_num1 (v := 1) (q := 39) rfl dX5_search_38 rfl ?_
  refine mj_isub (q := 40) dX5_search_39 rfl ?_
  refine mj_putf (q := 43) dX5_search_40 fl_X5_140 rfl rfl (by assumption) rfl rfl rfl ?_
  refine mj_aload_n (i := 2) (q := 44) dX5_search_43 rfl rfl rfl ?_
  refine mj_getf (q := 47) dX5_search_44 fl_X5_140 rfl rfl (by assumption) ?_
  exact mj_ireturn dX5_search_47 ⟨_, rfl, rfl⟩ ⟨_, rfl, by simp [mj_up], _, rfl, hN2.run hi (hR_i.put (k0 := 10) (v := (rs i).2 10 - 1) (by omega)) (mj_Fr.up mj_Fr.rf (by omega) (by omega)) (by simp [upd, vSet1]), mj_Fr.up mj_Fr.rf (by omega) (by omega)⟩
set_option maxHeartbeats 4000000 in
set_option maxRecDepth 100000 in
theorem s_test {d x m i : Nat} {n : Nat} {K : Nat → mj_K} {f : Nat → Nat → Int32} {g : Nat → Nat → Option Nat} {y : mV} (hP : LPn K g x m) (hN : MN f m y) (hi : i < y.2.1) : mj_Ci m_X5_test (d + 5) [.ref x, .int (nI i)] (n, K, f, g) (fun r h1 => r = vTell y.2.2.1 (nI i) (y.2.2.2.2 i) ∧ ∃ f1, h1 = (n, K, f1, g) ∧ MN f1 m (vTestV y i) ∧ mj_Fr m (m + 47) f f1) := by
  have hP2 := hP
  have hN2 := hN
  obtain ⟨kx, hxm, gx0, gx1, gx2, gx3, hL, hLt, hLb, kw⟩ := hP
  have hL2 := hL
  obtain ⟨km, gm0, gm1, km1, km6, hLl, hLr⟩ := hL
  obtain ⟨lc, rc, mu, ls, rs⟩ := y
  obtain ⟨n1, n2, n3, n4, n5, n6, n7, n8⟩ := hN
  dsimp only at n1 n2 n3 n4 n5 n6 n7 n8
  have hi : i < rc := hi
  have u4 : f m 4 = mu 4 := n5 4 (by omega) (by omega)
  have hg_i : g (m + 6) i = some (m + 7 + 5 * i) := (hLr i (by omega)).1
  have hL_i := (hLr i (by omega)).2
  have kr_i : K (m + 7 + 5 * i) = (2, 2, 0) := hL_i.1
  have gr_i : g (m + 7 + 5 * i) 0 = some ((m + 7 + 5 * i) + 1) := hL_i.2.1
  have ks_i : K ((m + 7 + 5 * i) + 1) = (2, 3, 0) := hL_i.2.2.1
  have hR_i := n7 i (by omega)
  refine mj_entry (by refine ⟨by decide +kernel, by decide, rfl, Nat.le_of_ble_eq_true rfl⟩) ?_
  show mj_W _ _ _ _ _ 0 [.ref x, .int (nI i), .null] [] _
  refine mj_aload_n (i := 0) (q := 1) dX5_test_0 rfl rfl rfl ?_
  refine mj_iload_n (i := 1) (q := 2) dX5_test_1 rfl rfl rfl ?_
  refine mj_cV1v (K := m_X5_requireRun) (q := 5) dX5_test_2 ln_X5_98 ok_X5_requireRun (Nat.le_of_ble_eq_true rfl) (by decide) (by assumption) rfl rfl (s_reqRun hP2 hN2 hi) (fun h1 hq => ?_)
  obtain rfl := hq
  refine mj_aload_n (i := 0) (q := 6) dX5_test_5 rfl rfl rfl ?_
  refine mj_getr (q := 9) dX5_test_6 fl_X5_10 rfl rfl (by assumption) (by assumption) ?_
  refine mj_getr (q := 12) dX5_test_9 fl_X5_65 rfl rfl (by assumption) (by assumption) ?_
  refine mj_iload_n (i := 1) (q := 13) dX5_test_12 rfl rfl rfl ?_
  refine mj_aaldn (q := 14) dX5_test_13 rfl (by assumption) ⟨by omega, by omega⟩ (by assumption) ?_
  refine mj_astore_n (i := 2) (q := 15) dX5_test_14 rfl rfl (by decide) rfl ?_
  dsimp only [List.set]
  refine mj_aload_n (i := 2) (q := 16) dX5_test_15 rfl rfl rfl ?_
  refine mj_aload_n (i := 0) (q := 17) dX5_test_16 rfl rfl rfl ?_
  refine mj_getr (q := 20) dX5_test_17 fl_X5_10 rfl rfl (by assumption) (by assumption) ?_
  refine mj_iload_n (i := 1) (q := 21) dX5_test_20 rfl rfl rfl ?_
  refine mj_aload_n (i := 2) (q := 22) dX5_test_21 rfl rfl rfl ?_
  refine mj_cV2i (K := m_X1_wouldTell) (q := 25) dX5_test_22 ln_X5_153 ok_X1_wouldTell (Nat.le_of_ble_eq_true rfl) (by decide) (by assumption) rfl rfl (s_wouldTell hL2 hN2 (i := i) hi) (fun r_22 h1 hq => ?_)
  obtain ⟨rfl, rfl⟩ := hq
  dsimp only
  have u4b : mj_up f (m + 7 + 5 * i) 11 (vTell mu (nI i) (rs i)) m 4 = mu 4 := by simp only [mj_up]; rw [if_neg (by omega)]; exact u4
  refine mj_putf (q := 28) dX5_test_25 fl_X5_157 rfl rfl (by assumption) rfl rfl rfl ?_
  refine mj_aload_n (i := 2) (q := 29) dX5_test_28 rfl rfl rfl ?_
  refine mj_aload_n (i := 0) (q := 30) dX5_test_29 rfl rfl rfl ?_
  refine mj_getr (q := 33) dX5_test_30 fl_X5_10 rfl rfl (by assumption) (by assumption) ?_
  refine mj_getfv (q := 36) dX5_test_33 fl_X5_116 rfl rfl (by assumption) (by assumption) ?_
  refine mj_num2 (v := 12) (q := 38) (by decide) dX5_test_36 rfl ?_
  refine mj_iadd (q := 39) dX5_test_38 rfl ?_
  refine mj_putf (q := 42) dX5_test_39 fl_X5_160 rfl rfl (by assumption) rfl rfl rfl ?_
  refine mj_aload_n (i := 2) (q := 43) dX5_test_42 rfl rfl rfl ?_
  refine mj_getf (q := 46) dX5_test_43 fl_X5_157 rfl rfl (by assumption) ?_
  exact mj_ireturn dX5_test_46 ⟨_, rfl, rfl⟩ ⟨_, rfl, by simp [mj_up], _, rfl, hN2.run hi ((hR_i.put (k0 := 11) (v := vTell mu (nI i) (rs i)) (by omega)).put (k0 := 12) (v := mu 4 + 12) (by omega)) (by repeat (first | exact mj_Fr.rf | refine mj_Fr.up ?_ (by omega) (by omega))) (by simp [upd, vSet1]), (by repeat (first | exact mj_Fr.rf | refine mj_Fr.up ?_ (by omega) (by omega)))⟩
set_option maxHeartbeats 4000000 in
set_option maxRecDepth 100000 in
theorem s_sweep {d x m i : Nat} {n : Nat} {K : Nat → mj_K} {f : Nat → Nat → Int32} {g : Nat → Nat → Option Nat} {y : mV} (hP : LPn K g x m) (hN : MN f m y) (hi : i < y.2.1) (ho : (y.2.2.2.2 i).2 15 = 0) : mj_Ci m_X5_sweep (d + 2) [.ref x, .int (nI i)] (n, K, f, g) (fun r h1 => r = (if (y.2.2.2.2 i).2 17 = 0 then 1 else 0) ∧ ∃ f1, h1 = (n, K, f1, g) ∧ MN f1 m (vPutRun y i (vSet1 (y.2.2.2.2 i) 17 1)) ∧ mj_Fr m (m + 47) f f1) := by
  have hP2 := hP
  have hN2 := hN
  obtain ⟨kx, hxm, gx0, gx1, gx2, gx3, hL, hLt, hLb, kw⟩ := hP
  have hL2 := hL
  obtain ⟨km, gm0, gm1, km1, km6, hLl, hLr⟩ := hL
  obtain ⟨lc, rc, mu, ls, rs⟩ := y
  obtain ⟨n1, n2, n3, n4, n5, n6, n7, n8⟩ := hN
  dsimp only at n1 n2 n3 n4 n5 n6 n7 n8
  have hi : i < rc := hi
  have ho : (rs i).2 15 = 0 := ho
  have hg_i : g (m + 6) i = some (m + 7 + 5 * i) := (hLr i (by omega)).1
  have hL_i := (hLr i (by omega)).2
  have kr_i : K (m + 7 + 5 * i) = (2, 2, 0) := hL_i.1
  have gr_i : g (m + 7 + 5 * i) 0 = some ((m + 7 + 5 * i) + 1) := hL_i.2.1
  have ks_i : K ((m + 7 + 5 * i) + 1) = (2, 3, 0) := hL_i.2.2.1
  have hR_i := n7 i (by omega)
  have e17_i : f (m + 7 + 5 * i) 17 = (rs i).2 17 := hR_i.2.1 17 (by omega) (by omega)
  refine mj_entry (by refine ⟨by decide +kernel, by decide, rfl, Nat.le_of_ble_eq_true rfl⟩) ?_
  show mj_W _ _ _ _ _ 0 [.ref x, .int (nI i), .null] [] _
  refine mj_aload_n (i := 0) (q := 1) dX5_sweep_0 rfl rfl rfl ?_
  refine mj_iload_n (i := 1) (q := 2) dX5_sweep_1 rfl rfl rfl ?_
  refine mj_cV1v (K := m_X5_requireClosed) (q := 5) dX5_sweep_2 ln_X5_132 ok_X5_requireClosed (Nat.le_of_ble_eq_true rfl) (by decide) (by assumption) rfl rfl (s_reqClosed hP2 hN2 hi ho) (fun h1 hq => ?_)
  obtain rfl := hq
  refine mj_aload_n (i := 0) (q := 6) dX5_sweep_5 rfl rfl rfl ?_
  refine mj_getr (q := 9) dX5_sweep_6 fl_X5_10 rfl rfl (by assumption) (by assumption) ?_
  refine mj_getr (q := 12) dX5_sweep_9 fl_X5_65 rfl rfl (by assumption) (by assumption) ?_
  refine mj_iload_n (i := 1) (q := 13) dX5_sweep_12 rfl rfl rfl ?_
  refine mj_aaldn (q := 14) dX5_sweep_13 rfl (by assumption) ⟨by omega, by omega⟩ (by assumption) ?_
  refine mj_getfv (q := 17) dX5_sweep_14 fl_X5_163 rfl rfl (by assumption) (by assumption) ?_
  refine mj_istore_n (i := 2) (q := 18) dX5_sweep_17 rfl rfl (by decide) rfl ?_
  dsimp only [List.set]
  refine mj_aload_n (i := 0) (q := 19) dX5_sweep_18 rfl rfl rfl ?_
  refine mj_getr (q := 22) dX5_sweep_19 fl_X5_10 rfl rfl (by assumption) (by assumption) ?_
  refine mj_getr (q := 25) dX5_sweep_22 fl_X5_65 rfl rfl (by assumption) (by assumption) ?_
  refine mj_iload_n (i := 1) (q := 26) dX5_sweep_25 rfl rfl rfl ?_
  refine mj_aaldn (q := 27) dX5_sweep_26 rfl (by assumption) ⟨by omega, by omega⟩ (by assumption) ?_
  refine mj_num1 (v := 1) (q := 28) rfl dX5_sweep_27 rfl ?_
  refine mj_putf (q := 31) dX5_sweep_28 fl_X5_163 rfl rfl (by assumption) rfl rfl rfl ?_
  refine mj_iload_n (i := 2) (q := 32) dX5_sweep_31 rfl rfl rfl ?_
  refine mj_if_ne (tgt := 39) (q := 35) dX5_sweep_32 (by decide) rfl (fun c_32 => ?_) (fun c_32 => ?_)
  · refine mj_num1 (v := 0) (q := 40) rfl dX5_sweep_39 rfl ?_
    exact mj_ireturn dX5_sweep_40 ⟨_, rfl, rfl⟩ ⟨_, rfl, by rw [if_neg c_32], _, rfl, hN2.run hi (hR_i.put (k0 := 17) (v := 1) (Or.inr (Or.inr rfl))) (mj_Fr.up mj_Fr.rf (by omega) (by omega)) (by simp [upd, vSet1]), mj_Fr.up mj_Fr.rf (by omega) (by omega)⟩
  · refine mj_num1 (v := 1) (q := 36) rfl dX5_sweep_35 rfl ?_
    refine mj_goto (q := 40) dX5_sweep_36 (by decide) ?_
    exact mj_ireturn dX5_sweep_40 ⟨_, rfl, rfl⟩ ⟨_, rfl, by rw [if_pos c_32], _, rfl, hN2.run hi (hR_i.put (k0 := 17) (v := 1) (Or.inr (Or.inr rfl))) (mj_Fr.up mj_Fr.rf (by omega) (by omega)) (by simp [upd, vSet1]), mj_Fr.up mj_Fr.rf (by omega) (by omega)⟩
set_option maxHeartbeats 4000000 in
set_option maxRecDepth 100000 in
theorem s_close {d x m i : Nat} {n : Nat} {K : Nat → mj_K} {f : Nat → Nat → Int32} {g : Nat → Nat → Option Nat} {y : mV} (hP : LPn K g x m) (hN : MN f m y) (hi : i < y.2.1) (ho : ¬ (y.2.2.2.2 i).2 15 = 0) : mj_Ci m_X5_close (d + 1) [.ref x, .int (nI i)] (n, K, f, g) (fun r h1 => r = y.2.2.1 4 - (y.2.2.2.2 i).2 13 ∧ ∃ f1, h1 = (n, K, f1, g) ∧ MN f1 m (vPutRun y i (vSet1 (vSet1 (y.2.2.2.2 i) 15 0) 17 0)) ∧ mj_Fr m (m + 47) f f1) := by
  have hP2 := hP
  have hN2 := hN
  obtain ⟨kx, hxm, gx0, gx1, gx2, gx3, hL, hLt, hLb, kw⟩ := hP
  have hL2 := hL
  obtain ⟨km, gm0, gm1, km1, km6, hLl, hLr⟩ := hL
  obtain ⟨lc, rc, mu, ls, rs⟩ := y
  obtain ⟨n1, n2, n3, n4, n5, n6, n7, n8⟩ := hN
  dsimp only at n1 n2 n3 n4 n5 n6 n7 n8
  have hi : i < rc := hi
  have ho : ¬ (rs i).2 15 = 0 := ho
  have u4 : f m 4 = mu 4 := n5 4 (by omega) (by omega)
  have hg_i : g (m + 6) i = some (m + 7 + 5 * i) := (hLr i (by omega)).1
  have hL_i := (hLr i (by omega)).2
  have kr_i : K (m + 7 + 5 * i) = (2, 2, 0) := hL_i.1
  have gr_i : g (m + 7 + 5 * i) 0 = some ((m + 7 + 5 * i) + 1) := hL_i.2.1
  have ks_i : K ((m + 7 + 5 * i) + 1) = (2, 3, 0) := hL_i.2.2.1
  have hR_i := n7 i (by omega)
  have e13_i : f (m + 7 + 5 * i) 13 = (rs i).2 13 := hR_i.2.1 13 (by omega) (by omega)
  have e15_i : f (m + 7 + 5 * i) 15 = (rs i).2 15 := hR_i.2.1 15 (by omega) (by omega)
  refine mj_entry (by refine ⟨by decide +kernel, by decide, rfl, Nat.le_of_ble_eq_true rfl⟩) ?_
  show mj_W _ _ _ _ _ 0 [.ref x, .int (nI i), .null] [] _
  refine mj_aload_n (i := 0) (q := 1) dX5_close_0 rfl rfl rfl ?_
  refine mj_iload_n (i := 1) (q := 2) dX5_close_1 rfl rfl rfl ?_
  refine mj_cV1v (K := m_X5_requireRun) (q := 5) dX5_close_2 ln_X5_98 ok_X5_requireRun (Nat.le_of_ble_eq_true rfl) (by decide) (by assumption) rfl rfl (s_reqRun hP2 hN2 hi) (fun h1 hq => ?_)
  obtain rfl := hq
  refine mj_aload_n (i := 0) (q := 6) dX5_close_5 rfl rfl rfl ?_
  refine mj_getr (q := 9) dX5_close_6 fl_X5_10 rfl rfl (by assumption) (by assumption) ?_
  refine mj_getr (q := 12) dX5_close_9 fl_X5_65 rfl rfl (by assumption) (by assumption) ?_
  refine mj_iload_n (i := 1) (q := 13) dX5_close_12 rfl rfl rfl ?_
  refine mj_aaldn (q := 14) dX5_close_13 rfl (by assumption) ⟨by omega, by omega⟩ (by assumption) ?_
  refine mj_astore_n (i := 2) (q := 15) dX5_close_14 rfl rfl (by decide) rfl ?_
  dsimp only [List.set]
  refine mj_aload_n (i := 2) (q := 16) dX5_close_15 rfl rfl rfl ?_
  refine mj_getfv (q := 19) dX5_close_16 fl_X5_194 rfl rfl (by assumption) (by assumption) ?_
  refine mj_if_ne (tgt := 32) (q := 22) dX5_close_19 (by decide) rfl (fun c_19 => ?_) (fun c_19 => absurd c_19 ho)
  refine mj_aload_n (i := 2) (q := 33) dX5_close_32 rfl rfl rfl ?_
  refine mj_num1 (v := 0) (q := 34) rfl dX5_close_33 rfl ?_
  refine mj_putf (q := 37) dX5_close_34 fl_X5_194 rfl rfl (by assumption) rfl rfl rfl ?_
  refine mj_aload_n (i := 2) (q := 38) dX5_close_37 rfl rfl rfl ?_
  refine mj_num1 (v := 0) (q := 39) rfl dX5_close_38 rfl ?_
  refine mj_putf (q := 42) dX5_close_39 fl_X5_163 rfl rfl (by assumption) rfl rfl rfl ?_
  refine mj_aload_n (i := 0) (q := 43) dX5_close_42 rfl rfl rfl ?_
  refine mj_getr (q := 46) dX5_close_43 fl_X5_10 rfl rfl (by assumption) (by assumption) ?_
  have u4b : mj_up (mj_up f (m + 7 + 5 * i) 15 0) (m + 7 + 5 * i) 17 0 m 4 = mu 4 := by simp only [mj_up]; rw [if_neg (by omega), if_neg (by omega)]; exact u4
  have e13b : mj_up (mj_up f (m + 7 + 5 * i) 15 0) (m + 7 + 5 * i) 17 0 (m + 7 + 5 * i) 13 = (rs i).2 13 := by simp only [mj_up]; simp; exact e13_i
  refine mj_getfv (q := 49) dX5_close_46 fl_X5_116 rfl rfl (by assumption) (by assumption) ?_
  refine mj_aload_n (i := 2) (q := 50) dX5_close_49 rfl rfl rfl ?_
  refine mj_getfv (q := 53) dX5_close_50 fl_X5_197 rfl rfl (by assumption) (by assumption) ?_
  refine mj_isub (q := 54) dX5_close_53 rfl ?_
  exact mj_ireturn dX5_close_54 ⟨_, rfl, rfl⟩ ⟨_, rfl, rfl, _, rfl, hN2.run hi ((hR_i.put (k0 := 15) (v := 0) (Or.inr (Or.inl rfl))).put (k0 := 17) (v := 0) (Or.inr (Or.inl rfl))) (by repeat (first | exact mj_Fr.rf | refine mj_Fr.up ?_ (by omega) (by omega))) (by simp [upd, vSet1]), (by repeat (first | exact mj_Fr.rf | refine mj_Fr.up ?_ (by omega) (by omega)))⟩
