/-! THE LAW: what holds in its loop -/
abbrev m_law : mj_M := (yL_law, cL_law, 27, some .boolean, RL, false)
def lw_QL : mj_Q := fun v _ => v = some (.int 1)
def LJ (lc rc L T n : Nat) (K : Nat → mj_K) (f : Nat → Nat → Int32) (g : Nat → Nat → Option Nat) (y : mV) (v5 v6 v7 v9 v10 : Int32) : Prop :=
  146 ≤ n ∧ K 0 = (3, L, 0) ∧ L ≤ 1000 ∧ LPn K g 1 2 ∧ MN f 2 y ∧ y.1 = lc ∧ y.2.1 = rc ∧ 1 ≤ lc ∧ (1 ≤ rc ∧ rc ≤ 6) ∧ K 144 = (0, rc, 0) ∧ K 145 = (0, rc, 0) ∧ JY (f 144) y T ∧
  (∃ b : Nat, b ≤ 50 ∧ v5 = nI b ∧ y.2.2.1 7 = 50 - nI b) ∧ (∃ q : Nat, q ≤ 20 ∧ v6 = nI q ∧ y.2.2.1 8 = 100 - 5 * nI q) ∧ v7 = rSum (fun i => (y.2.2.2.2 i).2 6) rc ∧ (∀ k, k < rc → f 145 k = (y.2.2.2.2 k).2 6) ∧ v9 = y.2.2.1 9 ∧ v10 = y.2.2.1 14 + y.2.2.1 15
def lw_K (d lc rc L T mc ms : Nat) (v11 : Int32) : Prop := ∀ (n : Nat) (K : Nat → mj_K) (f : Nat → Nat → Int32) (g : Nat → Nat → Option Nat) (y : mV) (v5 v6 v7 v9 v10 : Int32) (w12 w13 w14 w15 w16 w17 w18 w19 w20 w21 w22 w23 w24 w25 w26 : Value), LJ lc rc L T n K f g y v5 v6 v7 v9 v10 →
  mj_W m_law (d + 8) mc ms lw_QL 1358 [.ref 0, .ref 1, .int (nI lc), .int (nI rc), .ref 144, .int v5, .int v6, .int v7, .ref 145, .int v9, .int v10, .int v11, w12, w13, w14, w15, w16, w17, w18, w19, w20, w21, w22, w23, w24, w25, w26] [] (n, K, f, g)
theorem LJ.mono {lc rc L T T' n : Nat} {K : Nat → mj_K} {f : Nat → Nat → Int32} {g : Nat → Nat → Option Nat} {y : mV} {v5 v6 v7 v9 v10 : Int32} (h : LJ lc rc L T n K f g y v5 v6 v7 v9 v10) (hT : T ≤ T') : LJ lc rc L T' n K f g y v5 v6 v7 v9 v10 := by
  obtain ⟨a, b, c, d, e, i, j, k, l, m, o, p, q⟩ := h
  exact ⟨a, b, c, d, e, i, j, k, l, m, o, p.mono hT, q⟩
/-- one step: what the loop keeps count of stays -/
theorem LJ.step {lc rc L T T' n : Nat} {K : Nat → mj_K} {f f1 : Nat → Nat → Int32} {g : Nat → Nat → Option Nat} {y z : mV} {v5 v6 v7 v9 v10 : Int32} (h : LJ lc rc L T n K f g y v5 v6 v7 v9 v10) (hN : MN f1 2 z) (e1 : z.1 = y.1) (e2 : z.2.1 = y.2.1) (hF : mj_Fr 2 49 f f1) (hY : JY (f 144) z T') (g6 : ∀ i, (z.2.2.2.2 i).2 6 = (y.2.2.2.2 i).2 6) (hm : ∀ k, k = 7 ∨ k = 8 ∨ k = 9 ∨ k = 14 ∨ k = 15 → z.2.2.1 k = y.2.2.1 k) : LJ lc rc L T' n K f1 g z v5 v6 v7 v9 v10 := by
  obtain ⟨a, b, c, d, e, i, j, k, l, m, o, p, ⟨q1, q2, q3, q4⟩, ⟨r1, r2, r3, r4⟩, s, t, u, v⟩ := h
  have a4 : f1 144 = f 144 := hF 144 (Or.inr (by decide))
  have a5 : f1 145 = f 145 := hF 145 (Or.inr (by decide))
  refine ⟨a, b, c, d, hN, e1.trans i, e2.trans j, k, l, m, o, by rw [a4]; exact hY, ⟨q1, q2, q3, (hm 7 (by simp)).trans q4⟩, ⟨r1, r2, r3, (hm 8 (by simp)).trans r4⟩, s.trans (rSum_congr (fun i _ => (g6 i).symm)), fun k hk => ?_, u.trans (hm 9 (by simp)).symm, ?_⟩
  · rw [a5, t k hk, g6 k]
  · rw [v, hm 14 (by simp), hm 15 (by simp)]
theorem row6 {rs : Nat → rV} {i : Nat} {x : rV} (e : x.2 6 = (rs i).2 6) (k : Nat) : (mj_row rs i x k).2 6 = (rs k).2 6 := by
  by_cases h : k = i
  · subst h; rw [mj_rowe]; exact e
  · rw [mj_rown h]
theorem putRow6 {y : mV} {i : Nat} {x : rV} (e : x.2 6 = (y.2.2.2.2 i).2 6) (j : Nat) : ((vPutRun y i x).2.2.2.2 j).2 6 = (y.2.2.2.2 j).2 6 := row6 e j
theorem vSet1_e (x : rV) (k : Nat) (v : Int32) : (vSet1 x k v).2 k = v := by
  show upd x.2 k v k = v
  exact upd_e
theorem rSum_row_to {rs : Nat → rV} {w i : Nat} {x : rV} : ∀ n, i < n → rSum (fun k => (mj_row rs i x k).2 w) n = rSum (fun k => (rs k).2 w) n + (x.2 w - (rs i).2 w)
  | 0, h => absurd h (Nat.not_lt_zero i)
  | n + 1, h => by
    show rSum (fun k => (mj_row rs i x k).2 w) n + (mj_row rs i x n).2 w = rSum (fun k => (rs k).2 w) n + (rs n).2 w + (x.2 w - (rs i).2 w)
    by_cases q : i = n
    · subst q
      rw [mj_rowe, rSum_congr (F := fun k => (mj_row rs i x k).2 w) (G := fun k => (rs k).2 w) (fun k hk => by (try dsimp only); rw [mj_rown (by omega)])]
      have e : rSum (fun k => (rs k).2 w) i + (rs i).2 w + (x.2 w - (rs i).2 w) = rSum (fun k => (rs k).2 w) i + ((x.2 w - (rs i).2 w) + (rs i).2 w) := by ac_rfl
      rw [e, Int32.sub_add_cancel]
    · rw [mj_rown (fun z => q z.symm), rSum_row_to n (by omega)]
      ac_rfl
theorem vMin_comm (a b : Int32) : vMin a b = vMin b a := by
  apply Int32.toInt_inj.mp
  rw [ir_min, ir_min]
  omega
theorem n_blast : ∀ b, b < 51 → (50 : Int32) - (50 - nI b - 1) = nI (b + 1) := by decide +kernel
theorem n_blast2 : ∀ b, b < 50 → (50 : Int32) - nI b - 1 = 50 - nI (b + 1) := by decide +kernel
theorem n_blast3 : ∀ b, b < 50 → (1 : Int32) ≤ 50 - nI b := by decide +kernel
theorem n_fuel : ∀ q, q < 20 → (5 : Int32) ≤ 100 - 5 * nI q := by decide +kernel
theorem n_fuel2 : ∀ q, q < 20 → (100 : Int32) - 5 * nI q - 5 = 100 - 5 * nI (q + 1) := by decide +kernel
theorem n_time : ∀ t, t < 70 → (11 : Int32) + nI t % 19 = nI (11 + t % 19) := by decide +kernel
set_option maxHeartbeats 1000000 in
set_option maxRecDepth 100000 in
theorem s_cellS {d L k : Nat} {n : Nat} {K : Nat → mj_K} {f : Nat → Nat → Int32} {g : Nat → Nat → Option Nat} (hK : K 0 = (3, L, 0)) (hL : L ≤ 1000) (hk : k ≤ 1000) : mj_Ci m_L_cell d [.ref 0, .int (nI k)] (n, K, f, g) (fun r h1 => h1 = (n, K, f, g)) := by
  by_cases h : k < L
  · refine mj_entry (by refine ⟨by decide +kernel, by decide, rfl, Nat.le_of_ble_eq_true rfl⟩) ?_
    show mj_W _ _ _ _ _ 0 [.ref 0, .int (nI k)] [] _
    refine mj_iload_n (i := 1) (q := 1) dL_cell_0 rfl rfl rfl ?_
    refine mj_aload_n (i := 0) (q := 2) dL_cell_1 rfl rfl rfl ?_
    refine mj_slen (q := 3) dL_cell_2 rfl hK rfl ?_
    refine mj_icmp_ge (tgt := 12) (q := 6) dL_cell_3 (by decide) rfl (fun c_3 => absurd c_3 (nI_ge (a := k) (b := L) h (by omega))) (fun c_3 => ?_)
    refine mj_aload_n (i := 0) (q := 7) dL_cell_6 rfl rfl rfl ?_
    refine mj_iload_n (i := 1) (q := 8) dL_cell_7 rfl rfl rfl ?_
    refine mj_sld (q := 9) dL_cell_8 rfl hK (vp_in_nI h (by omega)) ?_
    refine mj_goto (q := 18) dL_cell_9 (by decide) ?_
    exact mj_ireturn dL_cell_18 ⟨_, rfl, rfl⟩ ⟨_, rfl, rfl⟩
  · refine mj_entry (by refine ⟨by decide +kernel, by decide, rfl, Nat.le_of_ble_eq_true rfl⟩) ?_
    show mj_W _ _ _ _ _ 0 [.ref 0, .int (nI k)] [] _
    refine mj_iload_n (i := 1) (q := 1) dL_cell_0 rfl rfl rfl ?_
    refine mj_aload_n (i := 0) (q := 2) dL_cell_1 rfl rfl rfl ?_
    refine mj_slen (q := 3) dL_cell_2 rfl hK rfl ?_
    refine mj_icmp_ge (tgt := 12) (q := 6) dL_cell_3 (by decide) rfl (fun c_3 => ?_) (fun c_3 => absurd (nI_le (a := L) (b := k) (by omega) (by omega)) c_3)
    refine mj_ldc (q := 14) dL_cell_12 ct_L_8 rfl ?_
    refine mj_iload_n (i := 1) (q := 15) dL_cell_14 rfl rfl rfl ?_
    refine mj_num1 (v := 3) (q := 16) rfl dL_cell_15 rfl ?_
    refine mj_iadd (q := 17) dL_cell_16 rfl ?_
    refine mj_imul (q := 18) dL_cell_17 rfl ?_
    exact mj_ireturn dL_cell_18 ⟨_, rfl, rfl⟩ ⟨_, rfl, rfl⟩
