/-! FACTS OF THE NUMBERS: bars, the next blast, what could be opened -/
theorem v01_0 {b : Int32} : v01 b = 0 ↔ b = 0 := by
  unfold v01
  constructor
  · intro h
    by_cases e : b = 0
    · exact e
    · rw [if_neg (by simpa using e)] at h
      exact absurd h (by decide)
  · intro h; subst h; rfl
theorem v01_1 {b : Int32} (h : b = 0) : ¬ v01 b = 1 := by subst h; decide
theorem vBar_rng {ls : Nat → Nat → Int32} {x : rV} {a b c : Int32} : 0 ≤ vBar ls x a b c ∧ vBar ls x a b c ≤ 7 := by
  unfold vBar
  repeat' split
  all_goals exact ⟨by decide, by decide⟩
theorem vBar_dud {ls : Nat → Nat → Int32} {x : rV} {a b c : Int32} (h : ¬ x.2 10 ≤ 0) : vBar ls x a b c = 1 ∨ vBar ls x a b c = 2 := by
  unfold vBar
  by_cases h1 : vMoving (ls (x.2 1).toNatClampNeg) = false
  · rw [if_pos h1]; exact Or.inl rfl
  · rw [if_neg h1, if_pos (Int32.not_le.mp h)]; exact Or.inr rfl
theorem vBar_0 {ls : Nat → Nat → Int32} {x : rV} {a b c : Int32} (h : vBar ls x a b c = 0) : x.2 10 ≤ 0 ∧ 30 ≤ vDepth 0 x.1 := by
  unfold vBar at h
  split at h
  · exact absurd h (by decide)
  split at h
  · exact absurd h (by decide)
  rename_i h2
  split at h
  · exact absurd h (by decide)
  split at h
  · exact absurd h (by decide)
  split at h
  · exact absurd h (by decide)
  split at h
  · exact absurd h (by decide)
  rename_i h6
  exact ⟨Int32.not_lt.mp h2, Int32.not_lt.mp h6⟩
theorem vNextN_spec (rs : Nat → rV) : ∀ n, (vNextN rs n = (-1, 0) ∧ ∀ k, k < n → ¬ ((rs k).2 15 = 0 ∧ (rs k).2 10 = 0 ∧ 40 ≤ vRisk ((rs k).2 3) (rs k).1 ∧ 0 < vSlideSize (rs k))) ∨ ∃ i, i < n ∧ (vNextN rs n).1 = nI i ∧ (rs i).2 15 = 0 ∧ (rs i).2 10 = 0 ∧ 40 ≤ vRisk ((rs i).2 3) (rs i).1
  | 0 => Or.inl ⟨rfl, fun k hk => absurd hk (Nat.not_lt_zero k)⟩
  | n + 1 => by
    rw [vNextN]
    split
    · rename_i h
      exact Or.inr ⟨n, Nat.lt_succ_self n, rfl, h.1, h.2.1, h.2.2.1⟩
    · rename_i h
      rcases vNextN_spec rs n with ⟨e, hk⟩ | ⟨i, hi, e⟩
      · refine Or.inl ⟨e, fun k hkn => ?_⟩
        by_cases q : k = n
        · subst q
          rw [e] at h
          exact h
        · exact hk k (by omega)
      · exact Or.inr ⟨i, by omega, e⟩
theorem vSoNext_of {y : mV} (hsz : ∀ k, k < y.2.1 → 40 ≤ vRisk ((y.2.2.2.2 k).2 3) (y.2.2.2.2 k).1 → 0 < vSlideSize (y.2.2.2.2 k)) (h8 : y.2.1 ≤ 8) : vSoNext y := by
  rcases vNextN_spec y.2.2.2.2 y.2.1 with ⟨e, hk⟩ | ⟨i, hi, e, e1, e2, e3⟩
  · have en : vNext y = -1 := by unfold vNext; rw [e]
    refine ⟨fun h => absurd (by rw [en]; decide) h, fun _ k hkr h => hk k hkr ⟨v01_0.mp h.2.1, h.2.2, h.1, hsz k hkr h.1⟩⟩
  · have en : vNext y = nI i := e
    refine ⟨fun _ => ⟨i, hi, en, e3, v01_1 e1, ?_⟩, fun h => ?_⟩
    · show (y.2.2.2.2 i).2 10 ≤ 0
      rw [e2]; exact Int32.le_refl _
    · rw [en] at h
      exact absurd h (nI_pos (by omega))
