/-! THE LAW: from its start -/
theorem d_fill {K : Nat → mj_K} {f : Nat → Nat → Int32} {g : Nat → Nat → Option Nat} (hF : lw_F K f g) (k0 : K 0 = (3, 7, 0)) : mj_W m_law 13 60 400 lw_QL 554 [.ref 0, .ref 2, .ref 145, .ref 149, .int 0, .null, .null, .null, .null] [] (150, K, f, g) := by
  by_cases q : f 0 1 < 1 ∨ ¬ f 0 1 ≤ 5000
  · exact cx_fill hF k0 rfl q
  · exact c_fill hF k0 rfl (fun z => q (Or.inl z)) (Classical.byContradiction fun z => q (Or.inr z))
theorem d_crowd {K : Nat → mj_K} {f : Nat → Nat → Int32} {g : Nat → Nat → Option Nat} (hF : lw_F K f g) (k0 : K 0 = (3, 7, 0)) : mj_W m_law 13 60 400 lw_QL 610 [.ref 0, .ref 2, .ref 145, .ref 149, .int 0, .null, .null, .null, .null] [] (150, K, f, g) := by
  by_cases q : f 0 1 < 0 ∨ ¬ f 0 1 ≤ 5000
  · exact cx_crowd hF k0 rfl q
  · exact c_crowd hF k0 rfl (fun z => q (Or.inl z)) (Classical.byContradiction fun z => q (Or.inr z))
theorem d_many {K : Nat → mj_K} {f : Nat → Nat → Int32} {g : Nat → Nat → Option Nat} (hF : lw_F K f g) (k0 : K 0 = (3, 7, 0)) : mj_W m_law 13 60 400 lw_QL 1490 [.ref 0, .ref 2, .ref 145, .ref 149, .int 0, .null, .null, .null, .null] [] (150, K, f, g) := by
  by_cases q : f 0 1 < 0 ∨ ¬ f 0 1 ≤ 14
  · exact cx_many hF k0 rfl q
  · obtain ⟨j, hj, ej⟩ := nI_of2 (x := f 0 1) (M := 14) (n := 14) rfl (fun z => q (Or.inl z)) (Classical.byContradiction fun z => q (Or.inr z))
    exact c_many hF k0 ej (by omega)
theorem d_lift {K : Nat → mj_K} {f : Nat → Nat → Int32} {g : Nat → Nat → Option Nat} (hF : lw_F K f g) (k0 : K 0 = (3, 7, 0)) : mj_W m_law 13 60 400 lw_QL 160 [.ref 0, .ref 2, .ref 145, .ref 149, .int 0, .null, .null, .null, .null] [] (150, K, f, g) := by
  by_cases q : (¬ f 0 1 < 10 ∧ f 0 1 ≤ 999) ∧ (¬ f 0 2 < 3 ∧ f 0 2 ≤ 9)
  · exact c_lift hF k0 rfl rfl q.1.1 q.1.2 q.2.1 q.2.2
  · exact cx_lift hF k0 rfl rfl q
theorem d_pass {K : Nat → mj_K} {f : Nat → Nat → Int32} {g : Nat → Nat → Option Nat} (hF : lw_F K f g) (k0 : K 0 = (3, 7, 0)) : mj_W m_law 13 60 400 lw_QL 666 [.ref 0, .ref 2, .ref 145, .ref 149, .int 0, .null, .null, .null, .null] [] (150, K, f, g) := by
  by_cases q : (¬ f 0 1 < 1 ∧ f 0 1 ≤ 48) ∧ (¬ f 0 2 < -20 ∧ f 0 2 ≤ 20) ∧ (¬ f 0 3 < 0 ∧ f 0 3 ≤ 9) ∧ (¬ f 0 4 < 0 ∧ f 0 4 ≤ 9) ∧ (¬ f 0 5 < 0 ∧ f 0 5 ≤ 3) ∧ (¬ f 0 6 < 0 ∧ f 0 6 ≤ 100)
  · obtain ⟨⟨a0, b0⟩, ⟨a1, b1⟩, ⟨a2, b2⟩, ⟨a3, b3⟩, ⟨a4, b4⟩, ⟨a5, b5⟩⟩ := q
    exact c_pass hF k0 rfl rfl rfl rfl rfl rfl a0 b0 a1 b1 a2 b2 a3 b3 a4 b4 a5 b5
  · exact cx_pass hF k0 rfl rfl rfl rfl rfl rfl q
set_option maxHeartbeats 100000 in
set_option maxRecDepth 100000 in
theorem law_switch {j : Nat} {K : Nat → mj_K} {f : Nat → Nat → Int32} {g : Nat → Nat → Option Nat} (hF : lw_F K f g) (k0 : K 0 = (3, 7, 0)) (hj : j < 32) : mj_W m_law 13 60 400 lw_QL 40 [.ref 0, .ref 2, .ref 145, .ref 149, .int 0, .null, .null, .null, .null] [.int (nI j)] (150, K, f, g) := by
  match j, hj with
  | 0, _ => exact mj_tabIn (off := 120) (q := 160) dL_law_40 (by decide) (by decide) (by decide) (by decide) (d_lift hF k0)
  | 1, _ => exact mj_tabIn (off := 188) (q := 228) dL_law_40 (by decide) (by decide) (by decide) (by decide) (c_run hF k0 rfl rfl rfl rfl rfl)
  | 2, _ => exact mj_tabIn (off := 292) (q := 332) dL_law_40 (by decide) (by decide) (by decide) (by decide) (c_turn hF k0 rfl rfl)
  | 3, _ => exact mj_tabIn (off := 383) (q := 423) dL_law_40 (by decide) (by decide) (by decide) (by decide) (c_release hF k0 rfl)
  | 4, _ => exact mj_tabIn (off := 446) (q := 486) dL_law_40 (by decide) (by decide) (by decide) (by decide) (c_guns hF k0 rfl rfl)
  | 5, _ => exact mj_tabIn (off := 514) (q := 554) dL_law_40 (by decide) (by decide) (by decide) (by decide) (d_fill hF k0)
  | 6, _ => exact mj_tabIn (off := 570) (q := 610) dL_law_40 (by decide) (by decide) (by decide) (by decide) (d_crowd hF k0)
  | 7, _ => exact mj_tabIn (off := 626) (q := 666) dL_law_40 (by decide) (by decide) (by decide) (by decide) (d_pass hF k0)
  | 8, _ => exact mj_tabIn (off := 744) (q := 784) dL_law_40 (by decide) (by decide) (by decide) (by decide) (c_blast hF k0 rfl)
  | 9, _ => exact mj_tabIn (off := 800) (q := 840) dL_law_40 (by decide) (by decide) (by decide) (by decide) (c_search hF k0 rfl)
  | 10, _ => exact mj_tabIn (off := 856) (q := 896) dL_law_40 (by decide) (by decide) (by decide) (by decide) (c_test hF k0 rfl)
  | 11, _ => exact mj_tabIn (off := 912) (q := 952) dL_law_40 (by decide) (by decide) (by decide) (by decide) (c_sweep hF k0 rfl)
  | 12, _ => exact mj_tabIn (off := 975) (q := 1015) dL_law_40 (by decide) (by decide) (by decide) (by decide) (c_winch hF k0 rfl rfl)
  | 13, _ => exact mj_tabIn (off := 1066) (q := 1106) dL_law_40 (by decide) (by decide) (by decide) (by decide) (c_groom hF k0 rfl)
  | 14, _ => exact mj_tabIn (off := 1122) (q := 1162) dL_law_40 (by decide) (by decide) (by decide) (by decide) (c_open hF k0 rfl)
  | 15, _ => exact mj_tabIn (off := 1178) (q := 1218) dL_law_40 (by decide) (by decide) (by decide) (by decide) (c_close hF k0 rfl)
  | 16, _ => exact mj_tabIn (off := 1234) (q := 1274) dL_law_40 (by decide) (by decide) (by decide) (by decide) (c_ofRun hF k0 rfl rfl)
  | 17, _ => exact mj_tabIn (off := 1302) (q := 1342) dL_law_40 (by decide) (by decide) (by decide) (by decide) (c_ofLayer hF k0 rfl rfl rfl)
  | 18, _ => exact mj_tabIn (off := 1382) (q := 1422) dL_law_40 (by decide) (by decide) (by decide) (by decide) (c_ofLift hF k0 rfl rfl)
  | 19, _ => exact mj_tabIn (off := 1450) (q := 1490) dL_law_40 (by decide) (by decide) (by decide) (by decide) (d_many hF k0)
  | 20, _ => exact mj_tabIn (off := 1506) (q := 1546) dL_law_40 (by decide) (by decide) (by decide) (by decide) (c_meanDepth hF k0 )
  | 21, _ => exact mj_tabIn (off := 1547) (q := 1587) dL_law_40 (by decide) (by decide) (by decide) (by decide) (c_wouldRisk hF k0 rfl rfl rfl rfl)
  | 22, _ => exact mj_tabIn (off := 1639) (q := 1679) dL_law_40 (by decide) (by decide) (by decide) (by decide) (c_wouldMake hF k0 rfl rfl rfl rfl)
  | 23, _ => exact mj_tabIn (off := 1731) (q := 1771) dL_law_40 (by decide) (by decide) (by decide) (by decide) (c_nextBlast hF k0 )
  | 24, _ => exact mj_tabIn (off := 1744) (q := 1784) dL_law_40 (by decide) (by decide) (by decide) (by decide) (c_couldOpen hF k0 )
  | 25, _ => exact mj_tabIn (off := 1757) (q := 1797) dL_law_40 (by decide) (by decide) (by decide) (by decide) (c_digest hF k0 )
  | 26, _ => exact mj_tabOut (q := 1811) dL_law_40 (by decide) (by decide) (c_end k0)
  | 27, _ => exact mj_tabOut (q := 1811) dL_law_40 (by decide) (by decide) (c_end k0)
  | 28, _ => exact mj_tabOut (q := 1811) dL_law_40 (by decide) (by decide) (c_end k0)
  | 29, _ => exact mj_tabOut (q := 1811) dL_law_40 (by decide) (by decide) (c_end k0)
  | 30, _ => exact mj_tabOut (q := 1811) dL_law_40 (by decide) (by decide) (c_end k0)
  | 31, _ => exact mj_tabOut (q := 1811) dL_law_40 (by decide) (by decide) (c_end k0)
  | z + 32, h => exact absurd h (by omega)
set_option maxHeartbeats 100000 in
set_option maxRecDepth 100000 in
theorem law_short {L n : Nat} {v : Int32} {K : Nat → mj_K} {f : Nat → Nat → Int32} {g : Nat → Nat → Option Nat} (k0 : K 0 = (3, L, 0)) (hl : Int32.ofNat L = v) (hv : v - 7 < 0) : mj_W m_law 13 60 400 lw_QL 23 [.ref 0, .ref 2, .ref 145, .ref 149, .int 0, .null, .null, .null, .null] [] (n, K, f, g) := by
  refine mj_iload (i := 4) (q := 25) dL_law_23 rfl rfl ?_
  refine mj_aload_n (i := 0) (q := 26) dL_law_25 rfl rfl rfl ?_
  refine mj_slen (L := L) (v := v) (q := 27) dL_law_26 rfl k0 hl ?_
  refine mj_num2 (v := 7) (q := 29) (by decide) dL_law_27 rfl ?_
  refine mj_isub (q := 30) dL_law_29 rfl ?_
  refine mj_icmp_gt (tgt := 1817) (q := 33) dL_law_30 (by decide) rfl (fun c_30 => ?_) (fun c_30 => absurd hv c_30)
  refine mj_num1 (v := 1) (q := 1818) rfl dL_law_1817 rfl ?_
  exact mj_ireturn dL_law_1818 ⟨_, rfl, rfl⟩ rfl
set_option maxHeartbeats 100000 in
set_option maxRecDepth 100000 in
theorem law_long {K : Nat → mj_K} {f : Nat → Nat → Int32} {g : Nat → Nat → Option Nat} (hF : lw_F K f g) (k0 : K 0 = (3, 7, 0)) : mj_W m_law 13 60 400 lw_QL 23 [.ref 0, .ref 2, .ref 145, .ref 149, .int 0, .null, .null, .null, .null] [] (150, K, f, g) := by
  refine mj_iload (i := 4) (q := 25) dL_law_23 rfl rfl ?_
  refine mj_aload_n (i := 0) (q := 26) dL_law_25 rfl rfl rfl ?_
  refine mj_slen (L := 7) (v := 7) (q := 27) dL_law_26 rfl k0 (by decide) ?_
  refine mj_num2 (v := 7) (q := 29) (by decide) dL_law_27 rfl ?_
  refine mj_isub (q := 30) dL_law_29 rfl ?_
  refine mj_icmp_gt (tgt := 1817) (q := 33) dL_law_30 (by decide) rfl (fun c_30 => absurd c_30 (by decide)) (fun c_30 => ?_)
  refine mj_aload_n (i := 0) (q := 34) dL_law_33 rfl rfl rfl ?_
  refine mj_iload (i := 4) (q := 36) dL_law_34 rfl rfl ?_
  refine mj_sldv (L := 7) (k := 0) (q := 37) dL_law_36 rfl k0 (by unfold vp_in; decide) (by decide) rfl ?_
  refine mj_num2 (v := 31) (q := 39) (by decide) dL_law_37 rfl ?_
  refine mj_iand (q := 40) dL_law_39 rfl ?_
  obtain ⟨j, hj, ej⟩ := pk_andE (f 0 0) 5 (m := 31) (by decide)
  rw [ej]
  exact law_switch hF k0 hj
theorem law_loop {L : Nat} {K : Nat → mj_K} {f : Nat → Nat → Int32} {g : Nat → Nat → Option Nat} (hF : lw_F K f g) (hL : L ≤ 7) (k0 : K 0 = (3, L, 0)) : mj_W m_law 13 60 400 lw_QL 23 [.ref 0, .ref 2, .ref 145, .ref 149, .int 0, .null, .null, .null, .null] [] (150, K, f, g) := by
  rcases (by omega : L = 0 ∨ L = 1 ∨ L = 2 ∨ L = 3 ∨ L = 4 ∨ L = 5 ∨ L = 6 ∨ L = 7) with rfl | rfl | rfl | rfl | rfl | rfl | rfl | rfl
  · exact law_short (v := 0) k0 (by decide) (by decide)
  · exact law_short (v := 1) k0 (by decide) (by decide)
  · exact law_short (v := 2) k0 (by decide) (by decide)
  · exact law_short (v := 3) k0 (by decide) (by decide)
  · exact law_short (v := 4) k0 (by decide) (by decide)
  · exact law_short (v := 5) k0 (by decide) (by decide)
  · exact law_short (v := 6) k0 (by decide) (by decide)
  · exact law_long hF k0
set_option maxHeartbeats 100000 in
set_option maxRecDepth 100000 in
theorem law_start {L : Nat} {K : Nat → mj_K} {f : Nat → Nat → Int32} {g : Nat → Nat → Option Nat} (hL : L ≤ 7) (k0 : K 0 = (3, L, 0)) : mj_W m_law 13 208 2030 lw_QL 0 [.ref 0, .null, .null, .null, .null, .null, .null, .null, .null] [] (2, K, f, g) := by
  refine mj_newB (ci := 7) (mc := 207) (ms := 2026) (q := 3) dL_law_0 (by decide) cl_L_8 in_X5 rfl rfl rfl ?_
  refine mj_dup (q := 4) rfl dL_law_3 rfl ?_
  refine mj_kI0v (K := m_X5_init) (q := 7) (mc1 := 142) (ms1 := 1600) (mc := 65) (ms := 426) dL_law_4 ln_L_89 ok_X5_init (Nat.le_of_ble_eq_true rfl) (by decide) rfl rfl rfl (s_X5_init (x := 2) mj_rows) (fun h1 hq => ?_)
  simp only [Nat.reduceAdd] at hq
  obtain ⟨K1, f1, g1, rfl, hO1, a1, a2, a3, a4, a5, a6, a7, a8, a9, a10⟩ := hq
  refine mj_astore_n (i := 1) (q := 8) dL_law_7 rfl rfl (by decide) rfl ?_
  dsimp only [List.set]
  refine mj_newB (ci := 9) (mc := 64) (ms := 419) (q := 11) dL_law_8 (by decide) cl_L_90 in_X7 rfl rfl rfl ?_
  refine mj_dup (q := 12) rfl dL_law_11 rfl ?_
  refine mj_kI0v (K := m_X7_init) (q := 15) (mc1 := 3) (ms1 := 18) (mc := 61) (ms := 401) dL_law_12 ln_L_92 ok_X7_init (Nat.le_of_ble_eq_true rfl) (by decide) rfl rfl rfl (s_X7_init (x := 145) mj_rows mj_rows) (fun h1 hq => ?_)
  simp only [Nat.reduceAdd] at hq
  obtain ⟨K2, f2, g2, rfl, hO2, b1, b2, b3, b4, b5, b6, b7, b8, ⟨b9, b10, b11⟩, b12, b13, b14⟩ := hq
  refine mj_astore_n (i := 2) (q := 16) dL_law_15 rfl rfl (by decide) rfl ?_
  dsimp only [List.set]
  refine mj_num1 (v := 1) (q := 17) rfl dL_law_16 rfl ?_
  refine mj_newlB (mc := 60) (ms := 400) (q := 19) dL_law_17 rfl rfl rfl rfl ?_
  refine mj_astore_n (i := 3) (q := 20) dL_law_19 rfl rfl (by decide) rfl ?_
  dsimp only [List.set]
  refine mj_num1 (v := 0) (q := 21) rfl dL_law_20 rfl ?_
  refine mj_istore (i := 4) (q := 23) dL_law_21 rfl (by decide) rfl ?_
  dsimp only [List.set]
  refine law_loop (L := L) ?_ hL ?_
  · exact ⟨(mj_rown (by decide)).trans ((hO2 2 (by decide)).1.trans ((mj_rown (by decide)).trans a1)), (congrFun (mj_rown (by decide)) 0).trans ((congrFun (hO2 2 (by decide)).2.2 0).trans ((congrFun (mj_rown (by decide)) 0).trans a2)), (congrFun (mj_rown (by decide)) 3).trans ((congrFun (hO2 2 (by decide)).2.2 3).trans ((congrFun (mj_rown (by decide)) 3).trans a3)), (mj_rown (by decide)).trans ((hO2 3 (by decide)).1.trans ((mj_rown (by decide)).trans a4)), (congrFun (mj_rown (by decide)) 0).trans ((congrFun (hO2 3 (by decide)).2.2 0).trans ((congrFun (mj_rown (by decide)) 0).trans a5)), (mj_rown (by decide)).trans ((hO2 4 (by decide)).1.trans ((mj_rown (by decide)).trans a6)), (congrFun (mj_rown (by decide)) 0).trans ((congrFun (hO2 4 (by decide)).2.2 0).trans ((congrFun (mj_rown (by decide)) 0).trans a7)), (mj_rown (by decide)).trans ((hO2 5 (by decide)).1.trans ((mj_rown (by decide)).trans a8)), (mj_rown (by decide)).trans ((hO2 3 (by decide)).2.1.trans ((mj_rown (by decide)).trans a9)), (mj_rown (by decide)).trans ((hO2 144 (by decide)).1.trans ((mj_rown (by decide)).trans a10)), (mj_rown (by decide)).trans b1, (congrFun (mj_rown (by decide)) 1).trans b2, (congrFun (mj_rown (by decide)) 2).trans b3, (congrFun (mj_rown (by decide)) 4).trans b4, (mj_rown (by decide)).trans b5, (congrFun (mj_rown (by decide)) 0).trans b6, (congrFun (mj_rown (by decide)) 1).trans b7, (mj_rown (by decide)).trans b8, (mj_rown (by decide)).trans b9, (congrFun (mj_rown (by decide)) 2).trans b10, (congrFun (mj_rown (by decide)) 1).trans b11, (mj_rown (by decide)).trans b12, (congrFun (mj_rown (by decide)) 2).trans b13, mj_rows⟩
  · exact (mj_rown (by decide)).trans ((hO2 0 (by decide)).1.trans ((mj_rown (by decide)).trans ((hO1 0 (by decide)).1.trans ((mj_rown (by decide)).trans k0))))
