/-! INVARIANTS: the snow -/
def IR (a b : Int) (v : Int32) : Prop := a ≤ v.toInt ∧ v.toInt ≤ b
theorem ir_add {x y : Int32} (h1 : -2147483648 ≤ x.toInt + y.toInt) (h2 : x.toInt + y.toInt ≤ 2147483647) : (x + y).toInt = x.toInt + y.toInt := by
  rw [Int32.toInt_add, Int.bmod_def]
  split <;> omega
theorem ir_sub {x y : Int32} (h1 : -2147483648 ≤ x.toInt - y.toInt) (h2 : x.toInt - y.toInt ≤ 2147483647) : (x - y).toInt = x.toInt - y.toInt := by
  rw [Int32.toInt_sub, Int.bmod_def]
  split <;> omega
theorem ir_mul {x y : Int32} (h1 : -2147483648 ≤ x.toInt * y.toInt) (h2 : x.toInt * y.toInt ≤ 2147483647) : (x * y).toInt = x.toInt * y.toInt := by
  rw [Int32.toInt_mul, Int.bmod_def]
  split <;> omega
theorem ir_min {x y : Int32} : (vMin x y).toInt = min x.toInt y.toInt := by
  unfold vMin
  split
  · rename_i h
    have := Int32.lt_iff_toInt_lt.mp h
    omega
  · rename_i h
    have : ¬ (y.toInt < x.toInt) := fun z => h (Int32.lt_iff_toInt_lt.mpr z)
    omega
theorem ir_max {x y : Int32} : (vMax x y).toInt = max x.toInt y.toInt := by
  unfold vMax
  split
  · rename_i h
    have := Int32.lt_iff_toInt_lt.mp h
    omega
  · rename_i h
    have : ¬ (x.toInt < y.toInt) := fun z => h (Int32.lt_iff_toInt_lt.mpr z)
    omega
def IL (D H T : Nat → Int32) (l : Nat) : Prop := IR 1 300 (D l) ∧ IR 0 100 (H l) ∧ IR 0 3 (T l)
def IS (x : sV) : Prop := x.1 ≤ 8 ∧ (∀ l, l < x.1 → IL x.2.2.2.1 x.2.2.2.2.1 x.2.2.2.2.2 l) ∧ (x.1 = 0 → x.2.1 = 0)
theorem IS.zero : IS v0S := ⟨by decide, fun l h => absurd h (Nat.not_lt_zero l), fun _ => rfl⟩
theorem IS.thicken {m : Int32} {x : sV} (h : IS x) (hm : IR 0 100000 m) : IS (vThicken m x) := by
  obtain ⟨c, w, sn, D, H, T⟩ := x
  cases c with
  | zero => exact h
  | succ c =>
    obtain ⟨h1, h2, h3⟩ := h
    refine ⟨h1, fun l hl => ?_, fun e => absurd e (Nat.succ_ne_zero c)⟩
    have q := h2 l hl
    show IL (upd D c (vMin (D c + m) 300)) H T l
    by_cases e : l = c
    · subst e
      obtain ⟨q1, q2, q3⟩ := q
      refine ⟨?_, q2, q3⟩
      rw [upd_e]
      unfold IR at q1 hm ⊢
      dsimp only at q1
      have a := ir_add (x := D l) (y := m) (by omega) (by omega)
      rw [ir_min, a, show (300 : Int32).toInt = 300 from rfl]
      omega
    · unfold IL at q ⊢
      rw [upd_n e]
      exact q
theorem IS.thin {m : Int32} {x : sV} (h : IS x) (hm : IR 0 100000 m) : IS (vThin m x) := by
  obtain ⟨c, w, sn, D, H, T⟩ := x
  cases c with
  | zero => exact h
  | succ c =>
    obtain ⟨h1, h2, h3⟩ := h
    dsimp only at h1
    unfold vThin
    dsimp only
    split
    · rename_i hd
      refine ⟨h1, fun l hl => ?_, fun e => absurd e (Nat.succ_ne_zero c)⟩
      have q := h2 l hl
      show IL (upd D c (D c - m)) H T l
      by_cases e : l = c
      · subst e
        obtain ⟨q1, q2, q3⟩ := q
        refine ⟨?_, q2, q3⟩
        rw [upd_e]
        have hd2 := Int32.le_iff_toInt_le.mp hd
        unfold IR at q1 hm ⊢
        dsimp only at q1
        have a := ir_sub (x := D l) (y := m) (by omega) (by omega)
        rw [show (1 : Int32).toInt = 1 from rfl] at hd2
        omega
      · unfold IL at q ⊢
        rw [upd_n e]
        exact q
    · refine ⟨by dsimp only; omega, fun l hl => ?_, fun _ => rfl⟩
      dsimp only at hl ⊢
      have q := h2 l (by dsimp only; omega)
      unfold IL at q ⊢
      rw [upd_n (by omega)]
      exact q
theorem IS.melt {m : Int32} {x : sV} (h : IS x) (hm : IR 0 100000 m) : IS (vMelt m x) := by
  have q := h.thin hm
  unfold vMelt
  generalize vThin m x = z at q
  obtain ⟨c, w, r⟩ := z
  refine ⟨q.1, q.2.1, fun e => ?_⟩
  dsimp only at e ⊢
  rw [e]
  rfl
theorem IS.layN {t dp hd : Int32} {x : sV} (h : IS x) (hc : x.1 < 8) (h1 : IR 1 300 dp) (h2 : IR 0 100 hd) (h3 : IR 0 3 t) : IS (vLayN t dp hd x) := by
  obtain ⟨c, w, sn, D, H, T⟩ := x
  obtain ⟨a1, a2, a3⟩ := h
  dsimp only at hc
  refine ⟨by show c + 1 ≤ 8; omega, fun l hl => ?_, fun e => absurd e (Nat.succ_ne_zero c)⟩
  show IL (upd D c dp) (upd H c hd) (upd T c t) l
  unfold IL
  by_cases e : l = c
  · subst e
    rw [upd_e, upd_e, upd_e]
    exact ⟨h1, h2, h3⟩
  · rw [upd_n e, upd_n e, upd_n e]
    have hl2 : l < c + 1 := hl
    exact a2 l (by dsimp only; omega)
theorem IS.join {x : sV} (h : IS x) (hc : x.1 = 8) : IS (vJoin x) := by
  obtain ⟨c, w, sn, D, H, T⟩ := x
  obtain ⟨a1, a2, a3⟩ := h
  dsimp only at hc
  subst hc
  refine ⟨by show 8 - 1 ≤ 8; omega, fun l hl => ?_, fun e => absurd e (by show ¬ 8 - 1 = 0; omega)⟩
  have hl2 : l < 8 - 1 := hl
  have q0 := a2 0 (by show 0 < 8; omega)
  have q1 := a2 1 (by show 1 < 8; omega)
  show IL (fun k => if k = 0 then vMin (D 0 + D 1) 300 else if k < 7 then D (k + 1) else D k) (fun k => if k = 0 then vMin (H 0) (H 1) else if k < 7 then H (k + 1) else H k) (fun k => if k = 0 then T 0 else if k < 7 then T (k + 1) else T k) l
  unfold IL at q0 q1 ⊢
  dsimp only at q0 q1 ⊢
  by_cases e : l = 0
  · rw [if_pos e, if_pos e, if_pos e]
    unfold IR at q0 q1 ⊢
    have a := ir_add (x := D 0) (y := D 1) (by omega) (by omega)
    rw [ir_min, ir_min, a, show (300 : Int32).toInt = 300 from rfl]
    omega
  · rw [if_neg e, if_neg e, if_neg e, if_pos (by omega), if_pos (by omega), if_pos (by omega)]
    exact a2 (l + 1) (by dsimp only; omega)
theorem IS.lay {t dp hd : Int32} {x : sV} (h : IS x) (h1 : IR 1 300 dp) (h2 : IR 0 100 hd) (h3 : IR 0 3 t) : IS (vLay t dp hd x) := by
  unfold vLay
  split
  · rename_i hc
    exact h.layN hc h1 h2 h3
  · rename_i hc
    have h8 : x.1 = 8 := by have := h.1; omega
    refine (h.join h8).layN ?_ h1 h2 h3
    obtain ⟨c, w, sn, D, H, T⟩ := x
    show c - 1 < 8
    dsimp only at h8
    omega
theorem IS.change {t hd : Int32} {x : sV} (h : IS x) (h2 : IR 0 100 hd) (h3 : IR 0 3 t) : IS (vChange t hd x) := by
  obtain ⟨c, w, sn, D, H, T⟩ := x
  cases c with
  | zero => exact h
  | succ c =>
    obtain ⟨a1, a2, a3⟩ := h
    refine ⟨a1, fun l hl => ?_, fun e => absurd e (Nat.succ_ne_zero c)⟩
    have q := a2 l hl
    show IL D (upd H c hd) (upd T c t) l
    unfold IL at q ⊢
    dsimp only at q
    by_cases e : l = c
    · subst e
      rw [upd_e, upd_e]
      exact ⟨q.1, h2, h3⟩
    · rw [upd_n e, upd_n e]
      exact q
theorem IS.set {b : Int32} {x : sV} (h : IS x) : IS (vSet b x) := h
theorem IS.wet0 {x : sV} (h : IS x) : IS (vWet0 x) := ⟨h.1, h.2.1, fun _ => rfl⟩
theorem IS.freeze {x : sV} (h : IS x) : IS (vFreeze x) := by
  unfold vFreeze
  split
  · exact h
  · exact (h.change ⟨by decide, by decide⟩ ⟨by decide, by decide⟩).wet0
theorem IS.weak {x : sV} (h : IS x) : IS (vWeak x) := by
  unfold vWeak
  split
  · exact h.change ⟨by decide, by decide⟩ ⟨by decide, by decide⟩
  · exact h
theorem IS.come {fall temp : Int32} {x : sV} (h : IS x) (hf : IR 0 9 fall) : IS (vCome fall temp x) := by
  unfold vCome
  refine IS.set ?_
  have hf2 : IR 0 100000 fall := ⟨hf.1, by have := hf.2; omega⟩
  split
  · rename_i hs
    unfold vSnows at hs
    rw [Bool.and_eq_true, decide_eq_true_eq] at hs
    have h0 := Int32.lt_iff_toInt_lt.mp hs.1
    rw [show (0 : Int32).toInt = 0 from rfl] at h0
    split
    · exact h.thicken hf2
    · exact h.lay ⟨by omega, by have := hf.2; omega⟩ ⟨by decide, by decide⟩ ⟨by decide, by decide⟩
  · split
    · exact h.melt hf2
    · exact h
theorem IS.drift {much lee win : Int32} {x : sV} (h : IS x) (hm : IR 1 9 much) : IS (vDrift much lee win x) := by
  have hm2 : IR 0 100000 much := ⟨by have := hm.1; omega, by have := hm.2; omega⟩
  unfold vDrift
  split
  · split
    · exact h.thicken hm2
    · exact h.lay ⟨hm.1, by have := hm.2; omega⟩ ⟨by decide, by decide⟩ ⟨by decide, by decide⟩
  · split
    · exact h.thin hm2
    · exact h
theorem IS.settle {noon : Int32} {x : sV} (h : IS x) : IS (vSettle noon x) := by
  obtain ⟨c, w, sn, D, H, T⟩ := x
  obtain ⟨a1, a2, a3⟩ := h
  refine ⟨a1, fun l hl => ?_, a3⟩
  have q := a2 l hl
  show IL D (fun k => if k < c ∧ (T k = 0 ∨ T k = 3 ∨ T k = 1 ∧ ¬ noon = 0) then vMin (H k + 1) 100 else H k) T l
  unfold IL at q ⊢
  dsimp only at q ⊢
  refine ⟨q.1, ?_, q.2.2⟩
  split
  · obtain ⟨_, q2, _⟩ := q
    unfold IR at q2 ⊢
    have a := ir_add (x := H l) (y := 1) (by rw [show (1 : Int32).toInt = 1 from rfl]; omega) (by rw [show (1 : Int32).toInt = 1 from rfl]; omega)
    rw [show (1 : Int32).toInt = 1 from rfl] at a
    rw [ir_min, a, show (100 : Int32).toInt = 100 from rfl]
    omega
  · exact q.2.1
theorem IS.press {x : sV} (h : IS x) : IS (vPress x) := by
  obtain ⟨c, w, sn, D, H, T⟩ := x
  match c, h with
  | 0, h => exact h
  | 1, h => exact h
  | c + 2, h =>
    obtain ⟨a1, a2, a3⟩ := h
    dsimp only at a1
    refine ⟨by show c + 1 ≤ 8; omega, fun l hl => ?_, fun e => absurd e (Nat.succ_ne_zero c)⟩
    have hl2 : l < c + 1 := hl
    show IL (upd D c (vMin ((D c + D (c + 1)) * 9 / 10) 300)) (upd H c (vMin (vMax (H c) (H (c + 1)) + 10) 100)) (upd T c 3) l
    by_cases e : l = c
    · subst e
      have q := a2 l (by dsimp only; omega)
      have q1 := a2 (l + 1) (by dsimp only; omega)
      unfold IL at q q1 ⊢
      dsimp only at q q1
      rw [upd_e, upd_e, upd_e]
      unfold IR at q q1 ⊢
      have a := ir_add (x := D l) (y := D (l + 1)) (by omega) (by omega)
      have n9 : (9 : Int32).toInt = 9 := rfl
      have b := ir_mul (x := D l + D (l + 1)) (y := 9) (by rw [n9]; omega) (by rw [n9]; omega)
      have c1 := ir_max (x := H l) (y := H (l + 1))
      have n10 : (10 : Int32).toInt = 10 := rfl
      have d1 := ir_add (x := vMax (H l) (H (l + 1))) (y := 10) (by rw [n10]; omega) (by rw [n10]; omega)
      have dv : ((D l + D (l + 1)) * 9 / 10).toInt = ((D l + D (l + 1)) * 9).toInt.tdiv 10 := by
        exact Int32.toInt_div_of_ne_right _ _ (by decide)
      rw [n9] at b
      rw [n10] at d1
      rw [ir_min, ir_min, dv, b, d1, show (300 : Int32).toInt = 300 from rfl, show (100 : Int32).toInt = 100 from rfl, show (3 : Int32).toInt = 3 from rfl, Int.tdiv_eq_ediv_of_nonneg (by omega)]
      omega
    · have q := a2 l (by dsimp only; omega)
      unfold IL at q ⊢
      rw [upd_n e, upd_n e, upd_n e]
      exact q
theorem IS.drop {lo : Int32} {x : sV} (h : IS x) (hlo : lo = -1 ∨ ∃ k, k < x.1 ∧ lo = nI k) : IS (vDrop lo x) := by
  unfold vDrop
  obtain ⟨a1, a2, a3⟩ := h
  rcases hlo with rfl | ⟨k, hk, rfl⟩
  · rw [if_pos rfl]; exact ⟨a1, a2, a3⟩
  · have ne : ¬ nI k = -1 := by
      intro e
      have : (nI k).toInt = -1 := by rw [e]; rfl
      rw [nI_toInt (by omega)] at this
      omega
    rw [if_neg ne, nI_clamp (by omega)]
    exact ⟨by dsimp only; omega, fun l hl => a2 l (by dsimp only at hl; omega), fun _ => rfl⟩
