/-! SKIERS: what an hour of the day does to lifts and runs -/
def rSum (F : Nat → Int32) : Nat → Int32
  | 0 => 0
  | n + 1 => rSum F n + F n
theorem rSum_congr {F G : Nat → Int32} : ∀ {n : Nat}, (∀ i, i < n → F i = G i) → rSum F n = rSum G n
  | 0, _ => rfl
  | n + 1, h => by
    show rSum F n + F n = rSum G n + G n
    rw [rSum_congr (n := n) (fun i hi => h i (by omega)), h n (by omega)]
theorem ir_mod {a b : Int32} (ha : 0 ≤ a.toInt) : (a % b).toInt = a.toInt % b.toInt := by
  rw [Int32.toInt_mod, Int.tmod_eq_emod_of_nonneg ha]
theorem ir_dm (x y : Int32) : x / y * y + x % y = x := by
  rw [← mj_rem x y, Int32.add_comm, Int32.sub_add_cancel]
theorem i32_s1 {A B C q E cnt ex0 : Int32} (h : A + E = C + q * cnt + ex0) : A + (B + (q + E)) + 0 = C + B + q * (cnt + 1) + ex0 := by
  have e : A + (B + (q + E)) = (A + E) + (B + q) := by ac_rfl
  rw [Int32.add_zero, e, h, Int32.mul_add, Int32.mul_one]
  ac_rfl
/-- what skiing leaves of a run: thinner snow, and all numbers but the riders -/
def KR (x x' : rV) : Prop := TH x.1 x'.1 ∧ IS x'.1 ∧ ∀ k, k ≠ 8 → x'.2 k = x.2 k
theorem KR.rf {x : rV} (h : IS x.1) : KR x x := ⟨TH.rf _, h, fun _ _ => rfl⟩
theorem KR.tr {x y z : rV} (h : KR x y) (g : KR y z) : KR x z := ⟨h.1.tr g.1, g.2.1, fun k hk => (g.2.2 k hk).trans (h.2.2 k hk)⟩
theorem KR.ski {r : Int32} {x : rV} (h : IS x.1) : KR x (vSkiRun r x) := ⟨TH.thinN _ h, IS.thinN _ h, fun _ hk => upd_n hk⟩
theorem JR.ski {x x' : rV} (h : JR x) (k : KR x x') : JR x' := by
  obtain ⟨-, h2, h3, h5, h6, h7a, h7b⟩ := h
  obtain ⟨-, kS, kk⟩ := k
  refine ⟨kS, ?_, ?_, ?_, ?_, ?_, ?_⟩
  · rw [kk 2 (by decide)]; exact h2
  · rw [kk 3 (by decide)]; exact h3
  · rw [kk 5 (by decide)]; exact h5
  · rw [kk 6 (by decide)]; exact h6
  · rw [kk 7 (by decide)]; exact h7a
  · rw [kk 7 (by decide), kk 5 (by decide)]; exact h7b
theorem KR.SR {x x' : rV} (k : KR x x') : SR x x' := fun j _ h8 _ _ _ _ _ => k.2.2 j h8
theorem vOpenOf_rng (rs : Nat → rV) (l : Int32) : ∀ n, n ≤ 8 → 0 ≤ (vOpenOf rs l n).toInt ∧ (vOpenOf rs l n).toInt ≤ n
  | 0, _ => ⟨Int.le_refl 0, Int.le_refl 0⟩
  | n + 1, h => by
    obtain ⟨a, b⟩ := vOpenOf_rng rs l n (by omega)
    have n1 : (1 : Int32).toInt = 1 := rfl
    have n0 : (0 : Int32).toInt = 0 := rfl
    rw [vOpenOf]
    split
    · have s := ir_add (x := vOpenOf rs l n) (y := 1) (by rw [n1]; omega) (by rw [n1]; omega)
      rw [s, n1]
      omega
    · rw [Int32.add_zero]
      omega
theorem vOpenOf_congr {rs rs' : Nat → rV} {l : Int32} : ∀ {n : Nat}, (∀ i, i < n → (rs' i).2 15 = (rs i).2 15 ∧ (rs' i).2 1 = (rs i).2 1) → vOpenOf rs' l n = vOpenOf rs l n
  | 0, _ => rfl
  | n + 1, h => by
    have q := h n (by omega)
    rw [vOpenOf, vOpenOf, vOpenOf_congr (n := n) (fun i hi => h i (by omega)), q.1, q.2]
theorem wSki_rng {r : Int32} {mu : Nat → Int32} {x : rV} (hr : IR 0 10000 r) (h0 : 0 ≤ (mu 13).toInt) (h1 : (mu 13).toInt ≤ 2000000000) : (mu 13).toInt ≤ (wSkiMu r mu x 13).toInt ∧ (wSkiMu r mu x 13).toInt ≤ (mu 13).toInt + 300 := by
  unfold IR at hr
  have n50 : (50 : Int32).toInt = 50 := rfl
  have n1 : (1 : Int32).toInt = 1 := rfl
  have n0 : (0 : Int32).toInt = 0 := rfl
  have d := ir_div (a := r) (b := 50) hr.1 (by rw [n50]; omega)
  rw [n50] at d
  obtain ⟨a, ha, ha1⟩ : ∃ a : Int32, a = (if r ≤ 40 * x.2 5 then 0 else 1) ∧ (0 ≤ a.toInt ∧ a.toInt ≤ 1) := by
    refine ⟨_, rfl, ?_⟩
    split
    · rw [n0]; omega
    · rw [n1]; omega
  obtain ⟨b, hb, hb1⟩ : ∃ b : Int32, b = (if vTop 2 x.1 = true then r / 50 else 0) ∧ (0 ≤ b.toInt ∧ b.toInt ≤ 200) := by
    refine ⟨_, rfl, ?_⟩
    split
    · rw [d]; omega
    · rw [n0]; omega
  have e : wSkiMu r mu x 13 = mu 13 + a + b := by rw [ha, hb]; rfl
  have s1 := ir_add (x := mu 13) (y := a) (by omega) (by omega)
  have s2 := ir_add (x := mu 13 + a) (y := b) (by omega) (by omega)
  rw [e, s2, s1]
  omega
theorem vShareN_spec {l q ex0 : Int32} {mu : Nat → Int32} {rs : Nat → rV} (hq : IR 0 5000 q) (he : IR 0 5000 ex0) : ∀ n, (∀ i, i < n → IS (rs i).1) →
    (∀ i, i < n → KR (rs i) ((vShareN l q ex0 mu rs n).2.1 i)) ∧ (∀ k, k ≠ 13 → (vShareN l q ex0 mu rs n).1 k = mu k) ∧
    rSum (fun i => ((vShareN l q ex0 mu rs n).2.1 i).2 8) n + (vShareN l q ex0 mu rs n).2.2 = rSum (fun i => (rs i).2 8) n + q * vOpenOf rs l n + ex0 ∧
    (((vShareN l q ex0 mu rs n).2.2 = ex0 ∧ vOpenOf rs l n = 0) ∨ (vShareN l q ex0 mu rs n).2.2 = 0) ∧
    (0 ≤ (mu 13).toInt → (mu 13).toInt + 300 * (n : Int) ≤ 2000000000 → (mu 13).toInt ≤ ((vShareN l q ex0 mu rs n).1 13).toInt ∧ ((vShareN l q ex0 mu rs n).1 13).toInt ≤ (mu 13).toInt + 300 * (n : Int))
  | 0, _ => by
    refine ⟨fun i hi => absurd hi (Nat.not_lt_zero i), fun _ _ => rfl, ?_, Or.inl ⟨rfl, rfl⟩, fun _ _ => ⟨Int.le_refl _, ?_⟩⟩
    · show (0 : Int32) + ex0 = 0 + q * 0 + ex0
      rw [Int32.mul_zero, Int32.add_zero]
    · show (mu 13).toInt ≤ (mu 13).toInt + 300 * 0
      omega
  | n + 1, h => by
    obtain ⟨a1, a2, a3, a4, a5⟩ := vShareN_spec (mu := mu) (l := l) hq he n (fun i hi => h i (by omega))
    have ge := vShareN_ge (l := l) (q := q) (ex0 := ex0) (mu := mu) (rs := rs) (n := n) (k := n) (Nat.le_refl n)
    rw [vShareN]
    generalize vShareN l q ex0 mu rs n = S at a1 a2 a3 a4 a5 ge ⊢
    obtain ⟨m1, r1, ex⟩ := S
    dsimp only at a1 a2 a3 a4 a5 ge ⊢
    have hE : IR 0 5000 ex := by
      rcases a4 with ⟨e, -⟩ | e
      · rw [e]; exact he
      · rw [e]; exact ⟨by decide, by decide⟩
    unfold IR at hq hE
    have sq := ir_add (x := q) (y := ex) (by omega) (by omega)
    split
    · rename_i hc
      refine ⟨fun i hi => ?_, fun k hk => ?_, ?_, Or.inr rfl, fun b0 b1 => ?_⟩
      · show KR (rs i) (mj_row r1 n (vSkiRun (q + ex) (rs n)) i)
        by_cases e : i = n
        · subst e; rw [mj_rowe]; exact KR.ski (h i (by omega))
        · rw [mj_rown e]; exact a1 i (by omega)
      · show wSkiMu (q + ex) m1 (rs n) k = mu k
        unfold wSkiMu
        rw [upd_n hk]
        exact a2 k hk
      · show rSum (fun i => (mj_row r1 n (vSkiRun (q + ex) (rs n)) i).2 8) n + (mj_row r1 n (vSkiRun (q + ex) (rs n)) n).2 8 + 0 = rSum (fun i => (rs i).2 8) n + (rs n).2 8 + q * vOpenOf rs l (n + 1) + ex0
        rw [rSum_congr (F := fun i => (mj_row r1 n (vSkiRun (q + ex) (rs n)) i).2 8) (G := fun i => (r1 i).2 8) (fun i hi => by (try dsimp only); rw [mj_rown (by omega)]), mj_rowe, vOpenOf, if_pos hc]
        exact i32_s1 a3
      · have w := wSki_rng (r := q + ex) (mu := m1) (x := rs n) ⟨by rw [sq]; omega, by rw [sq]; omega⟩
        have c := a5 b0 (by omega)
        have w := w (by omega) (by omega)
        show (mu 13).toInt ≤ (wSkiMu (q + ex) m1 (rs n) 13).toInt ∧ (wSkiMu (q + ex) m1 (rs n) 13).toInt ≤ (mu 13).toInt + 300 * ((n + 1 : Nat) : Int)
        omega
    · rename_i hc
      refine ⟨fun i hi => ?_, a2, ?_, ?_, fun b0 b1 => ?_⟩
      · by_cases e : i = n
        · subst e
          show KR (rs i) (r1 i)
          rw [ge]; exact KR.rf (h i (by omega))
        · exact a1 i (by omega)
      · show rSum (fun i => (r1 i).2 8) n + (r1 n).2 8 + ex = rSum (fun i => (rs i).2 8) n + (rs n).2 8 + q * vOpenOf rs l (n + 1) + ex0
        rw [vOpenOf, if_neg hc, Int32.add_zero, ge]
        have e1 : rSum (fun i => (r1 i).2 8) n + (rs n).2 8 + ex = (rSum (fun i => (r1 i).2 8) n + ex) + (rs n).2 8 := by ac_rfl
        rw [e1, a3]
        ac_rfl
      · rcases a4 with ⟨e1, e2⟩ | e1
        · exact Or.inl ⟨e1, by rw [vOpenOf, if_neg hc, e2]; rfl⟩
        · exact Or.inr e1
      · have c := a5 b0 (by omega)
        show (mu 13).toInt ≤ (m1 13).toInt ∧ (m1 13).toInt ≤ (mu 13).toInt + 300 * ((n + 1 : Nat) : Int)
        omega
theorem i32_s2 {a r lf b left : Int32} (h : a + lf = b + left) : a + r + (lf - r) = b + left := by
  have e : a + r + (lf - r) = a + ((lf - r) + r) := by ac_rfl
  rw [e, Int32.sub_add_cancel, h]
theorem vCarryN_spec {rc : Nat} {mu : Nat → Int32} {ls : Nat → Nat → Int32} {rs : Nat → rV} {left : Int32} (h8 : rc ≤ 8) (hI : ∀ i, i < rc → IS (rs i).1) (hl : IR 0 5000 left) : ∀ n, n ≤ 4 → (∀ l, l < n → IR 0 999 (ls l 0)) →
    (∀ i, i < rc → KR (rs i) ((vCarryN rc mu ls rs left n).2.2.1 i)) ∧ (∀ k, k ≠ 13 → k ≠ 14 → (vCarryN rc mu ls rs left n).1 k = mu k) ∧ IR 0 5000 (vCarryN rc mu ls rs left n).2.2.2 ∧
    (vCarryN rc mu ls rs left n).1 14 + (vCarryN rc mu ls rs left n).2.2.2 = mu 14 + left ∧
    rSum (fun l => (vCarryN rc mu ls rs left n).2.1 l 4) n + (vCarryN rc mu ls rs left n).2.2.2 = rSum (fun l => ls l 4) n + left ∧
    rSum (fun i => ((vCarryN rc mu ls rs left n).2.2.1 i).2 8) rc + (vCarryN rc mu ls rs left n).2.2.2 = rSum (fun i => (rs i).2 8) rc + left ∧
    (∀ l k, k ≠ 4 → (vCarryN rc mu ls rs left n).2.1 l k = ls l k) ∧
    (0 ≤ (mu 13).toInt → (mu 13).toInt + 2400 * (n : Int) ≤ 2000000000 → (mu 13).toInt ≤ ((vCarryN rc mu ls rs left n).1 13).toInt ∧ ((vCarryN rc mu ls rs left n).1 13).toInt ≤ (mu 13).toInt + 2400 * (n : Int))
  | 0, _, _ => by
    refine ⟨fun i hi => KR.rf (hI i hi), fun _ _ _ => rfl, hl, rfl, rfl, rfl, fun _ _ _ => rfl, fun _ _ => ⟨Int.le_refl _, ?_⟩⟩
    show (mu 13).toInt ≤ (mu 13).toInt + 2400 * 0
    omega
  | n + 1, h4, hc => by
    obtain ⟨a1, a2, a3, a4, a5, a6, a7, a8⟩ := vCarryN_spec (mu := mu) (ls := ls) h8 hI hl n (by omega) (fun l hl => hc l (by omega))
    have ge := vCarryN_ge (rc := rc) (mu := mu) (ls := ls) (rs := rs) (left := left) (n := n) (k := n) (Nat.le_refl n)
    rw [vCarryN]
    generalize vCarryN rc mu ls rs left n = S at a1 a2 a3 a4 a5 a6 a7 a8 ge ⊢
    obtain ⟨m1, l1, r1, lf⟩ := S
    dsimp only at a1 a2 a3 a4 a5 a6 a7 a8 ge ⊢
    split
    · rename_i hm
      obtain ⟨o, ho⟩ : ∃ o, o = vOpenOf r1 (nI n) rc := ⟨_, rfl⟩
      obtain ⟨rd, hrd⟩ : ∃ r, r = vMin (ls n 0) lf := ⟨_, rfl⟩
      rw [← ho] at hm
      rw [← ho, ← hrd]
      have hcap := hc n (by omega)
      unfold IR at hcap a3
      have er := ir_min (x := ls n 0) (y := lf)
      rw [← hrd] at er
      have og := vOpenOf_rng r1 (nI n) rc h8
      rw [← ho] at og
      have o0 := Int32.lt_iff_toInt_lt.mp hm.2
      rw [show (0 : Int32).toInt = 0 from rfl] at o0
      have dq := ir_div (a := rd) (b := o) (by omega) o0
      have dm := ir_mod (a := rd) (b := o) (by omega)
      have q0 : 0 ≤ rd.toInt / o.toInt := Int.ediv_nonneg (by omega) (by omega)
      have q1 : rd.toInt / o.toInt ≤ rd.toInt := Int.ediv_le_self _ (by omega)
      have e0 := Int.emod_nonneg rd.toInt (b := o.toInt) (by omega)
      have e1 := Int.emod_lt_of_pos rd.toInt (b := o.toInt) o0
      have sp := vShareN_spec (l := nI n) (q := rd / o) (ex0 := rd % o) (mu := upd m1 14 (m1 14 + rd)) (rs := r1) ⟨by rw [dq]; omega, by rw [dq]; omega⟩ ⟨by rw [dm]; omega, by rw [dm]; omega⟩ rc (fun i hi => (a1 i hi).2.1)
      rw [← ho] at sp
      generalize vShareN (nI n) (rd / o) (rd % o) (upd m1 14 (m1 14 + rd)) r1 rc = U at sp ⊢
      obtain ⟨m2, r2, ex⟩ := U
      obtain ⟨b1, b2, b3, b4, b5⟩ := sp
      dsimp only at b1 b2 b3 b4 b5 ⊢
      have hex : ex = 0 := by
        rcases b4 with ⟨-, z⟩ | z
        · exfalso
          rw [z] at o0
          exact absurd o0 (by decide)
        · exact z
      rw [hex, Int32.add_zero, Int32.add_assoc, ir_dm] at b3
      have sub := ir_sub (x := lf) (y := rd) (by omega) (by omega)
      refine ⟨fun i hi => (a1 i hi).tr (b1 i hi), fun k k13 k14 => ?_, ⟨by rw [sub]; omega, by rw [sub]; omega⟩, ?_, ?_, ?_, fun l k hk => ?_, fun z0 z1 => ?_⟩
      · rw [b2 k k13, upd_n k14]; exact a2 k k13 k14
      · rw [b2 14 (by decide), upd_e]
        exact i32_s2 a4
      · show rSum (fun l => mj_row l1 n (upd (ls n) 4 (ls n 4 + rd)) l 4) n + mj_row l1 n (upd (ls n) 4 (ls n 4 + rd)) n 4 + (lf - rd) = rSum (fun l => ls l 4) n + ls n 4 + left
        rw [rSum_congr (F := fun l => mj_row l1 n (upd (ls n) 4 (ls n 4 + rd)) l 4) (G := fun l => l1 l 4) (fun i hi => by (try dsimp only); rw [mj_rown (by omega)]), mj_rowe, upd_e]
        have e5 : rSum (fun l => l1 l 4) n + (ls n 4 + rd) + (lf - rd) = (rSum (fun l => l1 l 4) n + rd + (lf - rd)) + ls n 4 := by ac_rfl
        rw [e5, i32_s2 a5]
        ac_rfl
      · rw [b3]
        exact i32_s2 a6
      · by_cases e : l = n
        · subst e; rw [mj_rowe, upd_n hk]
        · rw [mj_rown e]; exact a7 l k hk
      · have c := a8 z0 (by omega)
        have u : upd m1 14 (m1 14 + rd) 13 = m1 13 := upd_n (by decide)
        rw [u] at b5
        have w := b5 (by omega) (by omega)
        omega
    · refine ⟨a1, a2, a3, a4, ?_, a6, a7, fun z0 z1 => ?_⟩
      · show rSum (fun l => l1 l 4) n + l1 n 4 + lf = rSum (fun l => ls l 4) n + ls n 4 + left
        rw [ge]
        have e5 : rSum (fun l => l1 l 4) n + ls n 4 + lf = (rSum (fun l => l1 l 4) n + lf) + ls n 4 := by ac_rfl
        rw [e5, a5]
        ac_rfl
      · have c := a8 z0 (by omega)
        show (mu 13).toInt ≤ (m1 13).toInt ∧ (m1 13).toInt ≤ (mu 13).toInt + 2400 * ((n + 1 : Nat) : Int)
        omega
theorem vHoldN_spec (wind : Int32) (ls : Nat → Nat → Int32) : ∀ n, (∀ l k, k ≠ 3 → vHoldN wind ls n l k = ls l k) ∧ (∀ l, l < n → ls l 1 < wind → vHoldN wind ls n l 3 = 1)
  | 0 => ⟨fun _ _ _ => rfl, fun l hl => absurd hl (Nat.not_lt_zero l)⟩
  | n + 1 => by
    obtain ⟨a, b⟩ := vHoldN_spec wind ls n
    refine ⟨fun l k hk => ?_, fun l hl hw => ?_⟩
    · rw [vHoldN]
      by_cases e : l = n
      · subst e
        rw [mj_rowe]
        unfold vHold
        split
        · exact upd_n hk
        · rfl
      · rw [mj_rown e]; exact a l k hk
    · rw [vHoldN]
      by_cases e : l = n
      · subst e
        rw [mj_rowe]
        unfold vHold
        rw [if_pos hw, upd_e]
      · rw [mj_rown e]; exact b l (by omega) hw
