/-! WHAT IS DONE leaves all that -/
theorem JY.mono {F : Nat → Int32} {y : mV} {B C : Nat} (h : JY F y B) (hB : B ≤ C) : JY F y C := by
  obtain ⟨j1, j2, j3, j4, j5, j6, j7, j8, j9, ⟨j10, j11, j12, j13, j14⟩, j15, j16, ⟨j17, j18⟩, j19⟩ := h
  exact ⟨j1, j2, j3, j4, j5, j6, j7, j8, j9, ⟨j10, j11, j12, j13, by omega⟩, j15, by omega, ⟨j17, by omega⟩, j19⟩
theorem rSum_row {α : Type} {rs : Nat → α} {G : α → Int32} {i n : Nat} {x : α} (e : G x = G (rs i)) : rSum (fun k => G (mj_row rs i x k)) n = rSum (fun k => G (rs k)) n := by
  refine rSum_congr (fun k _ => ?_)
  by_cases h : k = i
  · subst h; rw [mj_rowe]; exact e
  · rw [mj_rown h]
theorem JY.put {F : Nat → Int32} {y : mV} {B i : Nat} {x : rV} (h : JY F y B) (hi : i < y.2.1) (hx : JR x) (h5 : x.2 5 = (y.2.2.2.2 i).2 5) (h8 : x.2 8 = (y.2.2.2.2 i).2 8) (h9 : x.2 9 = (y.2.2.2.2 i).2 9) (h13 : 0 ≤ (x.2 13).toInt ∧ (x.2 13).toInt ≤ (y.2.2.1 4).toInt) : JY F (vPutRun y i x) B := by
  obtain ⟨j1, j2, j3, j4, j5, j6, j7, j8, j9, j10, j15, j16, j17, j19⟩ := h
  refine ⟨j1, j2, fun k hk => ?_, j4, j5, j6, ?_, j8, ?_, j10, j15, j16, j17, fun k hk => ?_⟩
  · show JR (mj_row y.2.2.2.2 i x k) ∧ (mj_row y.2.2.2.2 i x k).2 5 = F k
    by_cases e : k = i
    · subst e; rw [mj_rowe]; exact ⟨hx, h5.trans (j3 k hk).2⟩
    · rw [mj_rown e]; exact j3 k hk
  · exact j7.trans (rSum_row (G := fun z : rV => z.2 9) h9).symm
  · exact (rSum_row (G := fun z : rV => z.2 8) h8).trans j9
  · show 0 ≤ ((mj_row y.2.2.2.2 i x k).2 13).toInt ∧ ((mj_row y.2.2.2.2 i x k).2 13).toInt ≤ (y.2.2.1 4).toInt
    by_cases e : k = i
    · subst e; rw [mj_rowe]; exact h13
    · rw [mj_rown e]; exact j19 k hk
theorem JY.mu {F mu : Nat → Int32} {y : mV} {B : Nat} (h : JY F y B) (h6 : IR 0 5000 (mu 6)) (h9 : IR 0 5000 (mu 9)) (hk : ∀ k, k = 4 ∨ (10 ≤ k ∧ k ≤ 14) → mu k = y.2.2.1 k) : JY F (vPutMu y mu) B := by
  obtain ⟨j1, j2, j3, j4, j5, j6, j7, j8, j9, ⟨j10, j11, j12, j13, j14⟩, j15, j16, ⟨j17, j18⟩, j19⟩ := h
  have e4 := hk 4 (Or.inl rfl)
  have e10 := hk 10 (Or.inr (by omega))
  have e11 := hk 11 (Or.inr (by omega))
  have e12 := hk 12 (Or.inr (by omega))
  have e13 := hk 13 (Or.inr (by omega))
  have e14 := hk 14 (Or.inr (by omega))
  refine ⟨j1, j2, j3, j4, h6, h9, e10.trans j7, e14.trans j8, j9.trans e14.symm, ⟨?_, ?_, ?_, ?_, ?_⟩, ?_, ?_, ⟨?_, ?_⟩, fun i hi => ?_⟩
  · show 0 ≤ (mu 11).toInt; rw [e11]; exact j10
  · show (mu 11).toInt ≤ (mu 10).toInt; rw [e11, e10]; exact j11
  · show 0 ≤ (mu 12).toInt; rw [e12]; exact j12
  · show (mu 12).toInt ≤ (mu 10).toInt; rw [e12, e10]; exact j13
  · show (mu 10).toInt ≤ 8 * (B : Int); rw [e10]; exact j14
  · show 0 ≤ (mu 13).toInt; rw [e13]; exact j15
  · show (mu 13).toInt ≤ 9600 * (B : Int); rw [e13]; exact j16
  · show 0 ≤ (mu 4).toInt; rw [e4]; exact j17
  · show (mu 4).toInt ≤ (B : Int); rw [e4]; exact j18
  · show 0 ≤ ((y.2.2.2.2 i).2 13).toInt ∧ ((y.2.2.2.2 i).2 13).toInt ≤ (mu 4).toInt; rw [e4]; exact j19 i hi
theorem JY.lift {F z : Nat → Int32} {y : mV} {B i : Nat} (h : JY F y B) (z0 : z 0 = y.2.2.2.1 i 0) (z4 : z 4 = y.2.2.2.1 i 4) : JY F (vPutLift y i z) B := by
  obtain ⟨j1, j2, j3, j4, j5, j6, j7, j8, j9, j10, j15, j16, j17, j19⟩ := h
  refine ⟨j1, j2, j3, fun l hl => ?_, j5, j6, j7, ?_, j9, j10, j15, j16, j17, j19⟩
  · show IR 0 999 (mj_row y.2.2.2.1 i z l 0)
    by_cases e : l = i
    · subst e; rw [mj_rowe, z0]; exact j4 l hl
    · rw [mj_rown e]; exact j4 l hl
  · exact j8.trans (rSum_row (G := fun q : Nat → Int32 => q 4) z4).symm
theorem JR.set {x : rV} {k : Nat} {v : Int32} (h : JR x) (h2 : k ≠ 2) (h3 : k ≠ 3) (h5 : k ≠ 5) (h6 : k ≠ 6) (h7 : k ≠ 7) : JR (vSet1 x k v) := by
  obtain ⟨a, b, c, d, e, f, g⟩ := h
  refine ⟨a, ?_, ?_, ?_, ?_, ?_, ?_⟩
  · show IR 0 30 (upd x.2 k v 2); rw [upd_n (fun q => h2 q.symm)]; exact b
  · show IR 5 45 (upd x.2 k v 3); rw [upd_n (fun q => h3 q.symm)]; exact c
  · show IR 1 9 (upd x.2 k v 5); rw [upd_n (fun q => h5 q.symm)]; exact d
  · show IR 0 9 (upd x.2 k v 6); rw [upd_n (fun q => h6 q.symm)]; exact e
  · show 0 ≤ (upd x.2 k v 7).toInt; rw [upd_n (fun q => h7 q.symm)]; exact f
  · show (upd x.2 k v 7).toInt < (upd x.2 k v 5).toInt; rw [upd_n (fun q => h7 q.symm), upd_n (fun q => h5 q.symm)]; exact g
theorem JY.turn {F : Nat → Int32} {y : mV} {B i : Nat} {b : Int32} (h : JY F y B) : JY F (vPutLift y i (upd (y.2.2.2.1 i) 2 b)) B := h.lift rfl rfl
theorem JY.guns {F : Nat → Int32} {y : mV} {B i : Nat} {v : Int32} (h : JY F y B) (hi : i < y.2.1) (hv : IR 0 9 v) : JY F (vPutRun y i (vSet1 (y.2.2.2.2 i) 6 v)) B := by
  obtain ⟨a, b, c, d, e, f, g⟩ := (h.2.2.1 i hi).1
  have q := h.2.2.2.2.2.2.2.2.2.2.2.2.2 i hi
  exact h.put hi ⟨a, b, c, d, hv, f, g⟩ rfl rfl rfl q
theorem JY.crowd {F : Nat → Int32} {y : mV} {B : Nat} {v : Int32} (h : JY F y B) (hv : IR 0 5000 v) : JY F (vPutMu y (upd y.2.2.1 9 v)) B :=
  h.mu h.2.2.2.2.1 hv (fun k hk => upd_n (by omega))
theorem JY.fill {F : Nat → Int32} {y : mV} {B : Nat} {v : Int32} (h : JY F y B) (hv : IR 0 5000 v) : JY F (vPutMu y (upd y.2.2.1 6 v)) B :=
  h.mu hv h.2.2.2.2.2.1 (fun k hk => upd_n (by omega))
theorem JY.search {F : Nat → Int32} {y : mV} {B i : Nat} {v : Int32} (h : JY F y B) (hi : i < y.2.1) : JY F (vPutRun y i (vSet1 (y.2.2.2.2 i) 10 v)) B :=
  h.put hi ((h.2.2.1 i hi).1.set (by decide) (by decide) (by decide) (by decide) (by decide)) rfl rfl rfl (h.2.2.2.2.2.2.2.2.2.2.2.2.2 i hi)
theorem JY.test {F : Nat → Int32} {y : mV} {B i : Nat} (h : JY F y B) (hi : i < y.2.1) : JY F (vTestV y i) B :=
  h.put hi (((h.2.2.1 i hi).1.set (k := 11) (by decide) (by decide) (by decide) (by decide) (by decide)).set (k := 12) (by decide) (by decide) (by decide) (by decide) (by decide)) rfl rfl rfl (h.2.2.2.2.2.2.2.2.2.2.2.2.2 i hi)
theorem JY.sweep {F : Nat → Int32} {y : mV} {B i : Nat} (h : JY F y B) (hi : i < y.2.1) : JY F (vPutRun y i (vSet1 (y.2.2.2.2 i) 17 1)) B :=
  h.put hi ((h.2.2.1 i hi).1.set (by decide) (by decide) (by decide) (by decide) (by decide)) rfl rfl rfl (h.2.2.2.2.2.2.2.2.2.2.2.2.2 i hi)
theorem JY.close {F : Nat → Int32} {y : mV} {B i : Nat} (h : JY F y B) (hi : i < y.2.1) : JY F (vPutRun y i (vSet1 (vSet1 (y.2.2.2.2 i) 15 0) 17 0)) B :=
  h.put hi (((h.2.2.1 i hi).1.set (k := 15) (by decide) (by decide) (by decide) (by decide) (by decide)).set (k := 17) (by decide) (by decide) (by decide) (by decide) (by decide)) rfl rfl rfl (h.2.2.2.2.2.2.2.2.2.2.2.2.2 i hi)
theorem JY.opens {F : Nat → Int32} {y : mV} {B i : Nat} (h : JY F y B) (hi : i < y.2.1) : JY F (vOpenV y i) B := by
  unfold vOpenV
  split
  · exact h.put hi (((h.2.2.1 i hi).1.set (k := 15) (by decide) (by decide) (by decide) (by decide) (by decide)).set (k := 13) (by decide) (by decide) (by decide) (by decide) (by decide)) rfl rfl rfl ⟨h.2.2.2.2.2.2.2.2.2.2.2.2.1.1, Int.le_refl _⟩
  · exact h
theorem JY.groom {F : Nat → Int32} {y : mV} {B i : Nat} (h : JY F y B) (hi : i < y.2.1) : JY F (vGroomV y i) B := by
  have h1 : JY F (vPutMu y (upd y.2.2.1 8 (y.2.2.1 8 - 5))) B := h.mu h.2.2.2.2.1 h.2.2.2.2.2.1 (fun k hk => upd_n (by omega))
  obtain ⟨a, b, c, d, e, f, g⟩ := (h.2.2.1 i hi).1
  exact h1.put (x := (vPress (y.2.2.2.2 i).1, (y.2.2.2.2 i).2)) hi ⟨a.press, b, c, d, e, f, g⟩ rfl rfl rfl (h1.2.2.2.2.2.2.2.2.2.2.2.2.2 i hi)
theorem rSum_row1 {rs : Nat → rV} {i : Nat} {x : rV} (e : x.2 9 = (rs i).2 9 + 1) : ∀ n, i < n → rSum (fun k => (mj_row rs i x k).2 9) n = rSum (fun k => (rs k).2 9) n + 1
  | 0, h => absurd h (Nat.not_lt_zero i)
  | n + 1, h => by
    show rSum (fun k => (mj_row rs i x k).2 9) n + (mj_row rs i x n).2 9 = rSum (fun k => (rs k).2 9) n + (rs n).2 9 + 1
    by_cases q : i = n
    · subst q
      rw [mj_rowe, e, rSum_congr (F := fun k => (mj_row rs i x k).2 9) (G := fun k => (rs k).2 9) (fun k hk => by (try dsimp only); rw [mj_rown (by omega)])]
      ac_rfl
    · rw [mj_rown (fun z => q z.symm), rSum_row1 e n (by omega)]
      ac_rfl
theorem JY.blast {F : Nat → Int32} {y : mV} {B i : Nat} (h : JY F y B) (hB : B ≤ 1000) (hi : i < y.2.1) : JY F (vBlastV y i) (B + 1) := by
  have h1 : JY F (vPutMu y (upd y.2.2.1 7 (y.2.2.1 7 - 1))) B := h.mu h.2.2.2.2.1 h.2.2.2.2.2.1 (fun k hk => upd_n (by omega))
  unfold vBlastV
  split
  · exact (h1.put (x := vSet1 (y.2.2.2.2 i) 10 ((y.2.2.2.2 i).2 10 + 1)) hi ((h.2.2.1 i hi).1.set (by decide) (by decide) (by decide) (by decide) (by decide)) rfl rfl rfl (h1.2.2.2.2.2.2.2.2.2.2.2.2.2 i hi)).mono (by omega)
  · split
    · obtain ⟨j1, j2, j3, j4, j5, j6, j7, j8, j9, ⟨j10, j11, j12, j13, j14⟩, j15, j16, ⟨j17, j18⟩, j19⟩ := h
      obtain ⟨⟨hS, h2, h3, h5, h6, h7a, h7b⟩, hF⟩ := j3 i hi
      have hd : IS (vDrop (vShear ((y.2.2.2.2 i).2 3) (y.2.2.2.2 i).1) (y.2.2.2.2 i).1) := hS.drop (by
        rcases vShear_spec ((y.2.2.2.2 i).2 3) (y.2.2.2.2 i).1 with q | ⟨k, hk, q, -⟩
        · exact Or.inl q
        · exact Or.inr ⟨k, by omega, q⟩)
      have n1 : (1 : Int32).toInt = 1 := rfl
      have s10 := ir_add (x := y.2.2.1 10) (y := 1) (by rw [n1]; omega) (by rw [n1]; omega)
      have s11 := ir_add (x := y.2.2.1 11) (y := 1) (by rw [n1]; omega) (by rw [n1]; omega)
      rw [n1] at s10 s11
      obtain ⟨M, hM⟩ : ∃ M, M = vSlideMu (upd y.2.2.1 7 (y.2.2.1 7 - 1)) (vSlideSize (y.2.2.2.2 i)) := ⟨_, rfl⟩
      have e10 : M 10 = y.2.2.1 10 + 1 := by
        rw [hM]; unfold vSlideMu
        split <;> rfl
      have e11 : M 11 = y.2.2.1 11 ∨ M 11 = y.2.2.1 11 + 1 := by
        rw [hM]; unfold vSlideMu
        split
        · exact Or.inl rfl
        · exact Or.inr rfl
      have ek : ∀ k, k ≠ 7 → k ≠ 10 → k ≠ 11 → M k = y.2.2.1 k := by
        intro k k7 k10 k11
        rw [hM]; unfold vSlideMu
        split
        · rw [upd_n k10, upd_n k7]
        · rw [upd_n k11, upd_n k10, upd_n k7]
      have e6 := ek 6 (by decide) (by decide) (by decide)
      have e9 := ek 9 (by decide) (by decide) (by decide)
      have e12 := ek 12 (by decide) (by decide) (by decide)
      have e13 := ek 13 (by decide) (by decide) (by decide)
      have e14 := ek 14 (by decide) (by decide) (by decide)
      have e4 := ek 4 (by decide) (by decide) (by decide)
      show JY F (vPutRun (vPutMu y (vSlideMu (upd y.2.2.1 7 (y.2.2.1 7 - 1)) (vSlideSize (y.2.2.2.2 i)))) i (vSlideRun (y.2.2.2.2 i))) (B + 1)
      rw [← hM]
      refine ⟨j1, j2, fun k hk => ?_, j4, ?_, ?_, ?_, ?_, ?_, ⟨?_, ?_, ?_, ?_, ?_⟩, ?_, ?_, ⟨?_, ?_⟩, fun k hk => ?_⟩
      · show JR (mj_row y.2.2.2.2 i (vSlideRun (y.2.2.2.2 i)) k) ∧ (mj_row y.2.2.2.2 i (vSlideRun (y.2.2.2.2 i)) k).2 5 = F k
        by_cases e : k = i
        · subst e; rw [mj_rowe]; exact ⟨⟨hd, h2, h3, h5, h6, h7a, h7b⟩, hF⟩
        · rw [mj_rown e]; exact j3 k hk
      · show IR 0 5000 (M 6); rw [e6]; exact j5
      · show IR 0 5000 (M 9); rw [e9]; exact j6
      · show M 10 = rSum (fun k => (mj_row y.2.2.2.2 i (vSlideRun (y.2.2.2.2 i)) k).2 9) y.2.1
        rw [e10, j7, rSum_row1 (x := vSlideRun (y.2.2.2.2 i)) rfl y.2.1 hi]
      · show M 14 = rSum (fun l => y.2.2.2.1 l 4) y.1; rw [e14]; exact j8
      · show rSum (fun k => (mj_row y.2.2.2.2 i (vSlideRun (y.2.2.2.2 i)) k).2 8) y.2.1 = M 14
        rw [e14]
        exact (rSum_row (G := fun z : rV => z.2 8) (i := i) (x := vSlideRun (y.2.2.2.2 i)) rfl).trans j9
      · show 0 ≤ (M 11).toInt
        rcases e11 with e | e
        · rw [e]; exact j10
        · rw [e, s11]; omega
      · show (M 11).toInt ≤ (M 10).toInt
        rw [e10, s10]
        rcases e11 with e | e
        · rw [e]; omega
        · rw [e, s11]; omega
      · show 0 ≤ (M 12).toInt; rw [e12]; exact j12
      · show (M 12).toInt ≤ (M 10).toInt; rw [e12, e10, s10]; omega
      · show (M 10).toInt ≤ 8 * ((B + 1 : Nat) : Int); rw [e10, s10]; omega
      · show 0 ≤ (M 13).toInt; rw [e13]; exact j15
      · show (M 13).toInt ≤ 9600 * ((B + 1 : Nat) : Int); rw [e13]; omega
      · show 0 ≤ (M 4).toInt; rw [e4]; exact j17
      · show (M 4).toInt ≤ ((B + 1 : Nat) : Int); rw [e4]; omega
      · show 0 ≤ ((mj_row y.2.2.2.2 i (vSlideRun (y.2.2.2.2 i)) k).2 13).toInt ∧ ((mj_row y.2.2.2.2 i (vSlideRun (y.2.2.2.2 i)) k).2 13).toInt ≤ (M 4).toInt
        rw [e4]
        by_cases e : k = i
        · subst e; rw [mj_rowe]; exact j19 k hi
        · rw [mj_rown e]; exact j19 k hk
    · exact h1.mono (by omega)
