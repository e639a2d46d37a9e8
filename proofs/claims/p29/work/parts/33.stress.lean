/-! STRESS: its value; the greatest one; thinner snow has no more risk -/
def zSum (D : Nat → Int32) (lo : Nat) : Nat → Int
  | 0 => 0
  | n + 1 => zSum D lo n + (D (lo + n)).toInt
theorem vSum_z {D : Nat → Int32} {lo : Nat} : ∀ {n : Nat}, n ≤ 8 → (∀ k, k < n → IR 1 300 (D (lo + k))) → (vSum D lo n).toInt = zSum D lo n ∧ 0 ≤ zSum D lo n ∧ zSum D lo n ≤ 300 * (n : Int)
  | 0, _, _ => ⟨rfl, Int.le_refl 0, Int.le_refl 0⟩
  | n + 1, hn, h => by
    obtain ⟨e, a, b⟩ := vSum_z (D := D) (lo := lo) (n := n) (by omega) (fun k hk => h k (by omega))
    have q := h n (by omega)
    unfold IR at q
    have s := ir_add (x := vSum D lo n) (y := D (lo + n)) (by omega) (by omega)
    show (vSum D lo n + D (lo + n)).toInt = zSum D lo n + (D (lo + n)).toInt ∧ 0 ≤ zSum D lo n + (D (lo + n)).toInt ∧ zSum D lo n + (D (lo + n)).toInt ≤ 300 * ((n + 1 : Nat) : Int)
    rw [s, e]
    omega
theorem zSum_mono {D D' : Nat → Int32} {lo : Nat} : ∀ {n n' : Nat}, n' ≤ n → (∀ k, k < n' → (D' (lo + k)).toInt ≤ (D (lo + k)).toInt) → (∀ k, k < n → 0 ≤ (D (lo + k)).toInt) → zSum D' lo n' ≤ zSum D lo n
  | 0, n', h, _, _ => by
    have e : n' = 0 := by omega
    subst e
    exact Int.le_refl 0
  | n + 1, n', h, h1, h2 => by
    have q := h2 n (by omega)
    by_cases e : n' = n + 1
    · subst e
      have ih := zSum_mono (D := D) (D' := D') (lo := lo) (n := n) (n' := n) (Nat.le_refl n) (fun k hk => h1 k (by omega)) (fun k hk => h2 k (by omega))
      have q1 := h1 n (by omega)
      show zSum D' lo n + (D' (lo + n)).toInt ≤ zSum D lo n + (D (lo + n)).toInt
      omega
    · have ih := zSum_mono (D := D) (D' := D') (lo := lo) (n := n) (n' := n') (by omega) h1 (fun k hk => h2 k (by omega))
      show zSum D' lo n' ≤ zSum D lo n + (D (lo + n)).toInt
      omega
theorem vDepth_z {x : sV} (h : IS x) {lo : Nat} (hlo : lo ≤ x.1) : (vDepth lo x).toInt = zSum x.2.2.2.1 lo (x.1 - lo) ∧ 0 ≤ (vDepth lo x).toInt ∧ (vDepth lo x).toInt ≤ 2400 := by
  have h8 := h.1
  obtain ⟨e, a, b⟩ := vSum_z (D := x.2.2.2.1) (lo := lo) (n := x.1 - lo) (by omega) (fun k hk => (h.2.1 (lo + k) (by omega)).1)
  unfold vDepth
  rw [e]
  exact ⟨rfl, a, by omega⟩
/-- thinner: fewer layers, or less of the same -/
def TH (x x' : sV) : Prop := x'.1 ≤ x.1 ∧ ∀ l, l < x'.1 → x'.2.2.2.2.1 l = x.2.2.2.2.1 l ∧ x'.2.2.2.2.2 l = x.2.2.2.2.2 l ∧ (x'.2.2.2.1 l).toInt ≤ (x.2.2.2.1 l).toInt
theorem TH.rf (x : sV) : TH x x := ⟨Nat.le_refl _, fun _ _ => ⟨rfl, rfl, Int.le_refl _⟩⟩
theorem TH.tr {x y z : sV} (h : TH x y) (g : TH y z) : TH x z := ⟨Nat.le_trans g.1 h.1, fun l hl => by
  have a := h.2 l (Nat.lt_of_lt_of_le hl g.1)
  have b := g.2 l hl
  exact ⟨b.1.trans a.1, b.2.1.trans a.2.1, Int.le_trans b.2.2 a.2.2⟩⟩
theorem TH.depth {x x' : sV} (h : IS x) (h' : IS x') (t : TH x x') {lo : Nat} (hlo : lo ≤ x'.1) : (vDepth lo x').toInt ≤ (vDepth lo x).toInt := by
  have h8 := t.1
  rw [(vDepth_z h (lo := lo) (by omega)).1, (vDepth_z h' hlo).1]
  refine zSum_mono (by omega) (fun k hk => (t.2 (lo + k) (by omega)).2.2) (fun k hk => ?_)
  have q := (h.2.1 (lo + k) (by omega)).1
  unfold IR at q
  omega
theorem TH.thin {m : Int32} {x : sV} (h : IS x) (hm : IR 0 100000 m) : TH x (vThin m x) := by
  obtain ⟨c, w, sn, D, H, T⟩ := x
  match c, h with
  | 0, h => exact TH.rf _
  | c + 1, h =>
    have q := (h.2.1 c (Nat.lt_succ_self c)).1
    unfold IR at q hm
    dsimp only at q
    have s := ir_sub (x := D c) (y := m) (by omega) (by omega)
    have key : ∀ l, (upd D c (D c - m) l).toInt ≤ (D l).toInt := by
      intro l
      by_cases e : l = c
      · subst e; rw [upd_e, s]; omega
      · rw [upd_n e]; exact Int.le_refl _
    show TH _ (if 1 ≤ D c - m then _ else _)
    split
    · exact ⟨Nat.le_refl _, fun l _ => ⟨rfl, rfl, key l⟩⟩
    · exact ⟨Nat.le_succ c, fun l _ => ⟨rfl, rfl, key l⟩⟩
theorem TH.thinN : ∀ (n : Nat) {x : sV}, IS x → TH x (vThinN n x)
  | 0, x, _ => TH.rf x
  | n + 1, x, h => (TH.thin h ⟨by decide, by decide⟩).tr (TH.thinN n (h.thin ⟨by decide, by decide⟩))
/-- a layer's stress, as a whole number -/
def zStress (ab sl hd : Int) (t : Int32) : Int := if t = 1 then 2 * (ab * (sl - 20) / (hd + 1)) else ab * (sl - 20) / (hd + 1)
theorem zStress_mono {ab ab' sl hd : Int} {t : Int32} (h0 : ab' ≤ ab) (hs : 20 ≤ sl) (hh : 0 ≤ hd) : zStress ab' sl hd t ≤ zStress ab sl hd t := by
  have a : ab' * (sl - 20) ≤ ab * (sl - 20) := Int.mul_le_mul_of_nonneg_right h0 (by omega)
  have b : ab' * (sl - 20) / (hd + 1) ≤ ab * (sl - 20) / (hd + 1) := Int.ediv_le_ediv (by omega) a
  unfold zStress
  split <;> omega
theorem vStress_z {l : Nat} {ab slope : Int32} {x : sV} (ha : IR 0 2400 ab) (hs : IR 25 45 slope) (hh : IR 0 100 (x.2.2.2.2.1 l)) : (vStress l ab slope x).toInt = zStress ab.toInt slope.toInt (x.2.2.2.2.1 l).toInt (x.2.2.2.2.2 l) := by
  unfold IR at ha hs hh
  have n1 : (1 : Int32).toInt = 1 := rfl
  have n20 : (20 : Int32).toInt = 20 := rfl
  have n2 : (2 : Int32).toInt = 2 := rfl
  have e1 := ir_add (x := x.2.2.2.2.1 l) (y := 1) (by rw [n1]; omega) (by rw [n1]; omega)
  rw [n1] at e1
  have e2 := ir_sub (x := slope) (y := 20) (by rw [n20]; omega) (by rw [n20]; omega)
  rw [n20] at e2
  have p0 : 0 ≤ ab.toInt * (slope - 20).toInt := Int.mul_nonneg ha.1 (by omega)
  have p1 : ab.toInt * (slope - 20).toInt ≤ 2400 * 25 := Int.mul_le_mul ha.2 (by omega) (by omega) (by omega)
  have e3 := ir_mul (x := ab) (y := slope - 20) (by omega) (by omega)
  have ne : ¬ (x.2.2.2.2.1 l + 1 < 1) := by
    intro z
    have z := Int32.lt_iff_toInt_lt.mp z
    rw [e1, n1] at z
    omega
  have nz : x.2.2.2.2.1 l + 1 ≠ -1 := by
    intro z
    have z2 : (x.2.2.2.2.1 l + 1).toInt = -1 := by rw [z]; rfl
    omega
  have e4 : (ab * (slope - 20) / (x.2.2.2.2.1 l + 1)).toInt = (ab * (slope - 20)).toInt / (x.2.2.2.2.1 l + 1).toInt := by
    rw [Int32.toInt_div_of_ne_right _ _ nz, Int.tdiv_eq_ediv_of_nonneg (by omega)]
  have d0 : 0 ≤ (ab * (slope - 20)).toInt / (x.2.2.2.2.1 l + 1).toInt := Int.ediv_nonneg (by omega) (by omega)
  have d1 : (ab * (slope - 20)).toInt / (x.2.2.2.2.1 l + 1).toInt ≤ (ab * (slope - 20)).toInt := Int.ediv_le_self _ (by omega)
  unfold vStress zStress
  rw [if_neg ne]
  dsimp only
  split
  · rw [ir_mul (by rw [n2]; omega) (by rw [n2]; omega), n2, e4, e3, e2, e1]
  · rw [e4, e3, e2, e1]
/-- the weakest layer has the greatest stress -/
theorem vShearL_max (slope : Int32) (x : sV) : ∀ (n : Nat) (sh gr ab : Int32), n ≤ x.1 → ab = vDepth n x → ((sh = -1 ∧ gr = 0) ∨ ∃ k, k + 1 < x.1 ∧ sh = nI k ∧ gr = vStress k (vDepth (k + 1) x) slope x ∧ 0 < gr) →
    (vShearL slope x n sh gr ab = -1 ∧ gr = 0 ∧ ∀ l, l < n → ¬ 0 < vStress l (vDepth (l + 1) x) slope x) ∨
    ∃ k, k + 1 < x.1 ∧ vShearL slope x n sh gr ab = nI k ∧ 0 < vStress k (vDepth (k + 1) x) slope x ∧ gr ≤ vStress k (vDepth (k + 1) x) slope x ∧ ∀ l, l < n → vStress l (vDepth (l + 1) x) slope x ≤ vStress k (vDepth (k + 1) x) slope x
  | 0, sh, gr, ab, _, _, h => by
    rcases h with ⟨h1, h2⟩ | ⟨k, h1, h2, h3, h4⟩
    · exact Or.inl ⟨h1, h2, fun l hl => absurd hl (Nat.not_lt_zero l)⟩
    · exact Or.inr ⟨k, h1, h2, by rw [← h3]; exact h4, by rw [h3]; exact Int32.le_refl _, fun l hl => absurd hl (Nat.not_lt_zero l)⟩
  | n + 1, sh, gr, ab, hn, hab, h => by
    rw [vShearL]
    have hab2 : ab + x.2.2.2.1 n = vDepth n x := by rw [hab]; exact vDepth_step (by omega)
    split
    · rename_i hc
      have hk : n + 1 < x.1 := by
        by_cases e : n + 1 = x.1
        · exfalso
          have z := hc.1
          rw [hab, e, vDepth_top, vStress_0] at z
          exact absurd z (by decide)
        · omega
      have hc2 := hc
      rw [hab] at hc
      rcases vShearL_max slope x n (nI n) (vStress n ab slope x) (ab + x.2.2.2.1 n) (by omega) hab2 (Or.inr ⟨n, hk, rfl, by rw [hab], hc2.1⟩) with ⟨-, a2, -⟩ | ⟨k, a1, a2, a3, a4, a5⟩
      · exfalso
        have z := hc2.1
        rw [a2] at z
        exact absurd z (by decide)
      · rw [hab] at a4
        refine Or.inr ⟨k, a1, a2, a3, Int32.le_trans hc.2 a4, fun l hl => ?_⟩
        by_cases e : l = n
        · subst e; exact a4
        · exact a5 l (by omega)
    · rename_i hc
      rw [hab] at hc
      rcases vShearL_max slope x n sh gr (ab + x.2.2.2.1 n) (by omega) hab2 h with ⟨a1, a2, a3⟩ | ⟨k, a1, a2, a3, a4, a5⟩
      · refine Or.inl ⟨a1, a2, fun l hl => ?_⟩
        by_cases e : l = n
        · subst e
          intro z
          exact hc ⟨z, by rw [a2]; exact Int32.le_of_lt z⟩
        · exact a3 l (by omega)
      · refine Or.inr ⟨k, a1, a2, a3, a4, fun l hl => ?_⟩
        by_cases e : l = n
        · subst e
          by_cases z : 0 < vStress l (vDepth (l + 1) x) slope x
          · have g : ¬ gr ≤ vStress l (vDepth (l + 1) x) slope x := fun q => hc ⟨z, q⟩
            exact Int32.le_of_lt (Int32.lt_of_lt_of_le (Int32.not_le.mp g) a4)
          · exact Int32.le_of_lt (Int32.lt_of_le_of_lt (Int32.not_lt.mp z) a3)
        · exact a5 l (by omega)
theorem vShear_max (slope : Int32) (x : sV) (h25 : 25 ≤ slope) : (vShear slope x = -1 ∧ ∀ l, l < x.1 → ¬ 0 < vStress l (vDepth (l + 1) x) slope x) ∨
    ∃ k, k + 1 < x.1 ∧ vShear slope x = nI k ∧ 0 < vStress k (vDepth (k + 1) x) slope x ∧ ∀ l, l < x.1 → vStress l (vDepth (l + 1) x) slope x ≤ vStress k (vDepth (k + 1) x) slope x := by
  unfold vShear
  rw [if_pos h25]
  rcases vShearL_max slope x x.1 (-1) 0 0 (Nat.le_refl _) (vDepth_top x).symm (Or.inl ⟨rfl, rfl⟩) with ⟨a1, -, a3⟩ | ⟨k, a1, a2, a3, -, a5⟩
  · exact Or.inl ⟨a1, a3⟩
  · exact Or.inr ⟨k, a1, a2, a3, a5⟩
/-- thinner snow has no more risk -/
theorem TH.risk {slope : Int32} {x x' : sV} (h : IS x) (h' : IS x') (t : TH x x') (hs : IR 5 45 slope) : (vRisk slope x').toInt ≤ (vRisk slope x).toInt := by
  have z0 : (0 : Int32).toInt = 0 := rfl
  have z9 : (999 : Int32).toInt = 999 := rfl
  have z25 : (25 : Int32).toInt = 25 := rfl
  have r := vRisk_spec (slope := slope) h.1
  have r0 := Int32.le_iff_toInt_le.mp r.1
  rw [z0] at r0
  by_cases h25 : 25 ≤ slope
  · have s25 := Int32.le_iff_toInt_le.mp h25
    rw [z25] at s25
    unfold IR at hs
    have hs2 : IR 25 45 slope := ⟨s25, hs.2⟩
    rcases vShear_max slope x' h25 with ⟨a1, a2⟩ | ⟨k, a1, a2, a3, a4⟩
    · unfold vRisk
      rw [if_pos a1, z0]
      exact r0
    · have hk : k < x'.1 := by omega
      have tk := t.2 k hk
      have t1 := t.1
      have h8 := h.1
      have h8' := h'.1
      have d := TH.depth h h' t (lo := k + 1) (by omega)
      have dz := (vDepth_z h (lo := k + 1) (by omega)).2
      have dz' := (vDepth_z h' (lo := k + 1) (by omega)).2
      have hh := (h.2.1 k (by omega)).2.1
      have hh' := (h'.2.1 k hk).2.1
      have v := vStress_z (l := k) (x := x) (ab := vDepth (k + 1) x) ⟨dz.1, dz.2⟩ hs2 hh
      have v' := vStress_z (l := k) (x := x') (ab := vDepth (k + 1) x') ⟨dz'.1, dz'.2⟩ hs2 hh'
      unfold IR at hh
      rw [tk.1, tk.2.1] at v'
      have m := zStress_mono (t := x.2.2.2.2.2 k) (sl := slope.toInt) d (by omega) hh.1
      have p := Int32.lt_iff_toInt_lt.mp a3
      rw [z0] at p
      have e' : vRisk slope x' = vMin (vStress k (vDepth (k + 1) x') slope x') 999 := by
        unfold vRisk
        rw [if_neg (by rw [a2]; exact nI_ne (by omega)), a2, nI_clamp (by omega)]
      rcases vShear_max slope x h25 with ⟨b1, b2⟩ | ⟨j, b1, b2, b3, b4⟩
      · exfalso
        exact b2 k (by omega) (Int32.lt_iff_toInt_lt.mpr (by rw [z0]; omega))
      · have e : vRisk slope x = vMin (vStress j (vDepth (j + 1) x) slope x) 999 := by
          unfold vRisk
          rw [if_neg (by rw [b2]; exact nI_ne (by omega)), b2, nI_clamp (by omega)]
        have q := Int32.le_iff_toInt_le.mp (b4 k (by omega))
        rw [e, e', ir_min, ir_min, z9]
        omega
  · unfold vRisk
    have e : vShear slope x' = -1 := by unfold vShear; rw [if_neg h25]
    rw [if_pos e, z0]
    exact r0
