/-! CONSTRUCTORS, second part -/
section MJ9
variable {M : mj_M} {d mc ms : Nat} {Q : mj_Q} {pc q : Nat} {lv st : List Value} {n : Nat} {K : Nat → mj_K} {f : Nat → Nat → Int32} {g : Nat → Nat → Option Nat}
theorem mj_aastn {a L ci r y i : Nat} (hd : decode M.2.1 pc = .ok (.aastore, 1)) (hq : pc + 1 = q) (hK : K a = (1, L, ci)) (hi : i < L ∧ L ≤ 1000) (hr : K r = (2, ci, y)) (k : mj_W M d mc ms Q q lv st (n, K, f, mj_up g a i (some r))) : mj_W M d mc ms Q pc lv (.ref r :: .int (nI i) :: .ref a :: st) (n, K, f, g) :=
  mj_aast hd hq hK (vp_in_nI hi.1 (by omega)) hr (by rw [nI_clamp (by omega)]; exact k)
end MJ9
theorem LRn.eq {K K1 : Nat → mj_K} {g g1 : Nat → Nat → Option Nat} {r : Nat} (h : LRn K g r) (he : ∀ a, r ≤ a → a < r + 5 → K1 a = K a ∧ g1 a = g a) : LRn K1 g1 r := by
  obtain ⟨h1, h2, q0, q1, q2, q3, q4, q5, q6⟩ := h
  have e0 := he r (by omega) (by omega)
  have e1 := he (r + 1) (by omega) (by omega)
  exact ⟨e0.1.trans h1, by rw [e0.2]; exact h2, e1.1.trans q0, (he (r + 1 + 1) (by omega) (by omega)).1.trans q1, (he (r + 1 + 2) (by omega) (by omega)).1.trans q2, (he (r + 1 + 3) (by omega) (by omega)).1.trans q3, by rw [e1.2]; exact q4, by rw [e1.2]; exact q5, by rw [e1.2]; exact q6⟩
theorem RN.eq {f f1 : Nat → Nat → Int32} {r : Nat} {x : rV} (h : RN f r x) (he : ∀ a, r ≤ a → a < r + 5 → f1 a = f a) : RN f1 r x := by
  unfold RN SN at h ⊢
  rw [he r (by omega) (by omega), he (r + 1) (by omega) (by omega), he (r + 1 + 1) (by omega) (by omega), he (r + 1 + 2) (by omega) (by omega), he (r + 1 + 3) (by omega) (by omega)]
  exact h
theorem LMn.eq {K K1 : Nat → mj_K} {g g1 : Nat → Nat → Option Nat} {m : Nat} (h : LMn K g m) (he : ∀ a, m ≤ a → a < m + 47 → K1 a = K a ∧ g1 a = g a) : LMn K1 g1 m := by
  obtain ⟨h1, h2, h3, h4, h5, h6, h7⟩ := h
  have e0 := he m (by omega) (by omega)
  have e1 := he (m + 1) (by omega) (by omega)
  have e6 := he (m + 6) (by omega) (by omega)
  refine ⟨e0.1.trans h1, by rw [e0.2]; exact h2, by rw [e0.2]; exact h3, e1.1.trans h4, e6.1.trans h5, fun i hi => ?_, fun i hi => ?_⟩
  · rw [e1.2, (he (m + 2 + i) (by omega) (by omega)).1]; exact h6 i hi
  · rw [e6.2]; exact ⟨(h7 i hi).1, (h7 i hi).2.eq (fun a q1 q2 => he a (by omega) (by omega))⟩
/-- what a mountain's cells hold at its making -/
def MN0 (f : Nat → Nat → Int32) (m : Nat) : Prop := MN f m (0, 0, v0Mu, fun _ _ => 0, fun _ => v0R) ∧ (∀ i, i < 4 → LN f (m + 2 + i) (fun _ => 0)) ∧ ∀ i, i < 8 → RN f (m + 7 + 5 * i) v0R
theorem MN0.eq {f f1 : Nat → Nat → Int32} {m : Nat} (h : MN0 f m) (he : ∀ a, m ≤ a → a < m + 47 → f1 a = f a) : MN0 f1 m := by
  obtain ⟨⟨n1, n2, n3, n4, n5, n6, n7, n8⟩, h2, h3⟩ := h
  refine ⟨⟨n1, n2, by rw [he m (by omega) (by omega)]; exact n3, by rw [he m (by omega) (by omega)]; exact n4, fun k z1 z2 => by rw [he m (by omega) (by omega)]; exact n5 k z1 z2, fun i hi => absurd hi (Nat.not_lt_zero i), fun i hi => absurd hi (Nat.not_lt_zero i), fun i hi => absurd hi (Nat.not_lt_zero i)⟩, fun i hi => ?_, fun i hi => (h3 i hi).eq (fun a q1 q2 => he a (by omega) (by omega))⟩
  have q := h2 i hi
  unfold LN at q ⊢
  rw [he (m + 2 + i) (by omega) (by omega)]
  exact q
def mjc_B : Nat → Nat
  | 0 => 0
  | j + 1 => 1 + ((1 + (1 + (1 + (1 + 0)) + 0)) + mjc_B j)
def mjs_B : Nat → Nat
  | 0 => 0
  | j + 1 => 18 + ((6 + (8 + (8 + (8 + 0)) + 0)) + mjs_B j)
def mjc_A : Nat → Nat
  | 0 => 1 + mjc_B 8
  | j + 1 => 1 + (0 + mjc_A j)
def mjs_A : Nat → Nat
  | 0 => 8 + mjs_B 8
  | j + 1 => 5 + (0 + mjs_A j)
theorem mjc_A4 : mjc_A 4 = 45 := rfl

set_option maxHeartbeats 4000000 in
set_option maxRecDepth 100000 in
theorem s_X1_init {d m : Nat} {K : Nat → mj_K} {f : Nat → Nat → Int32} {g : Nat → Nat → Option Nat} (hK : K m = (2, 1, 0)) (hf : f m = fun _ => 0) : mj_C m_X1_init (d + 3) (1 + mjc_A 4) (4 + mjs_A 4) [.ref m] (m + 1, K, f, g) (fun v h1 => v = none ∧ ∃ K1 f1 g1, h1 = (m + 47, K1, f1, g1) ∧ mj_old m K K1 f f1 g g1 ∧ LMn K1 g1 m ∧ MN0 f1 m) := by
  have runs : ∀ (j i : Nat) (K1 : Nat → mj_K) (f1 : Nat → Nat → Int32) (g1 : Nat → Nat → Option Nat), i + j = 8 → mj_old m K K1 f f1 g g1 → K1 m = (2, 1, 0) → (f1 m = fun _ => 0) → g1 m 0 = some (m + 1) → K1 (m + 1) = (1, 4, 0) → (∀ t, t < 4 → g1 (m + 1) t = some (m + 2 + t) ∧ K1 (m + 2 + t) = (2, 0, 0) ∧ f1 (m + 2 + t) = fun _ => 0) → g1 m 1 = some (m + 6) → K1 (m + 6) = (1, 8, 2) → (∀ t, t < i → g1 (m + 6) t = some (m + 7 + 5 * t) ∧ LRn K1 g1 (m + 7 + 5 * t) ∧ RN f1 (m + 7 + 5 * t) v0R) → mj_W m_X1_init (d + 3) (mjc_B j) (mjs_B j) (fun v h1 => v = none ∧ ∃ K1 f1 g1, h1 = (m + 47, K1, f1, g1) ∧ mj_old m K K1 f f1 g g1 ∧ LMn K1 g1 m ∧ MN0 f1 m) 49 [.ref m, .int (nI i)] [] (m + 7 + 5 * i, K1, f1, g1) := by
    intro j
    induction j with
    | zero =>
      intro i K1 f1 g1 hi a1 a2 a3 a4 a5 a6 a7 a8 a9
      have hi : i = 8 := by omega
      subst hi
      show mj_W _ _ 0 0 _ _ _ _ _
      refine mj_iload_n (i := 1) (q := 50) dX1_init_49 rfl rfl rfl ?_
      refine mj_num2 (v := 8) (q := 52) (by decide) dX1_init_50 rfl ?_
      refine mj_icmp_ge (tgt := 74) (q := 55) dX1_init_52 (by decide) rfl (fun c_52 => ?_) (fun c_52 => absurd (Int32.le_refl _) c_52)
      refine mj_aload_n (i := 0) (q := 75) dX1_init_74 rfl rfl rfl ?_
      refine mj_num3 (v := 500) (q := 78) (by decide) dX1_init_75 rfl ?_
      refine mj_putf (q := 81) dX1_init_78 fl_X1_25 rfl rfl (by assumption) rfl rfl rfl ?_
      refine mj_aload_n (i := 0) (q := 82) dX1_init_81 rfl rfl rfl ?_
      refine mj_num2 (v := 50) (q := 84) (by decide) dX1_init_82 rfl ?_
      refine mj_putf (q := 87) dX1_init_84 fl_X1_29 rfl rfl (by assumption) rfl rfl rfl ?_
      refine mj_aload_n (i := 0) (q := 88) dX1_init_87 rfl rfl rfl ?_
      refine mj_num2 (v := 100) (q := 90) (by decide) dX1_init_88 rfl ?_
      refine mj_putf (q := 93) dX1_init_90 fl_X1_32 rfl rfl (by assumption) rfl rfl rfl ?_
      refine mj_return dX1_init_93 rfl ⟨rfl, _, _, _, rfl, ?_, ?_, ?_⟩
      · exact (((a1.tr (mj_old.putf (Nat.le_refl m)) (Nat.le_refl m)).tr (mj_old.putf (Nat.le_refl m)) (Nat.le_refl m)).tr (mj_old.putf (Nat.le_refl m)) (Nat.le_refl m))
      · exact ⟨a2, a4, a7, a5, a8, fun t ht => ⟨(a6 t ht).1, (a6 t ht).2.1⟩, fun t ht => ⟨(a9 t ht).1, (a9 t ht).2.1⟩⟩
      · have hk : ∀ a, m < a → mj_up (mj_up (mj_up f1 m 6 500) m 7 50) m 8 100 a = f1 a := fun a ha => (mj_upr (by omega)).trans ((mj_upr (by omega)).trans (mj_upr (by omega)))
        refine ⟨⟨by decide, by decide, ?_, ?_, ?_, fun t ht => absurd ht (Nat.not_lt_zero t), fun t ht => absurd ht (Nat.not_lt_zero t), fun t ht => absurd ht (Nat.not_lt_zero t)⟩, fun t ht => ?_, fun t ht => (a9 t ht).2.2.eq (fun a q1 q2 => hk a (by omega))⟩
        · simp [mj_up, a3, nI_0]
        · simp [mj_up, a3, nI_0]
        · intro k k1 k2
          simp [mj_up, a3, v0Mu, upd]
        · have q := (a6 t ht).2.2
          refine ⟨fun k hk2 => ?_, Or.inl rfl, Or.inl rfl⟩
          rw [hk _ (by omega), q]
    | succ j ih =>
      intro i K1 f1 g1 hi a1 a2 a3 a4 a5 a6 a7 a8 a9
      show mj_W _ _ (1 + ((1 + (1 + (1 + (1 + 0)) + 0)) + mjc_B j)) (18 + ((6 + (8 + (8 + (8 + 0)) + 0)) + mjs_B j)) _ _ _ _ _
      refine mj_iload_n (i := 1) (q := 50) dX1_init_49 rfl rfl rfl ?_
      refine mj_num2 (v := 8) (q := 52) (by decide) dX1_init_50 rfl ?_
      refine mj_icmp_ge (tgt := 74) (q := 55) dX1_init_52 (by decide) rfl (fun c_52 => absurd c_52 (nI_ge (a := i) (b := 8) (by omega) (by omega))) (fun c_52 => ?_)
      refine mj_aload_n (i := 0) (q := 56) dX1_init_55 rfl rfl rfl ?_
      refine mj_getr (q := 59) dX1_init_56 fl_X1_20 rfl rfl a2 a7 ?_
      refine mj_iload_n (i := 1) (q := 60) dX1_init_59 rfl rfl rfl ?_
      refine mj_new (ci := 2) (q := 63) dX1_init_60 (by decide) cl_X1_18 in_X2 rfl ?_
      refine mj_dup (q := 64) rfl dX1_init_63 rfl ?_
      refine mj_cI0m (K := m_X2_init) (q := 67) dX1_init_64 ln_X1_24 ok_X2_init (Nat.le_of_ble_eq_true rfl) (by decide) rfl (s_X2_init (r := m + 7 + 5 * i) mj_rowe mj_rowe) (fun h1 hq => ?_)
      obtain ⟨K2, f2, g2, rfl, hO, hL, hR⟩ := hq
      have o2 : ∀ a, a < m + 7 + 5 * i → K2 a = K1 a ∧ f2 a = f1 a ∧ g2 a = g1 a := fun a ha => ⟨(hO a ha).1.trans (mj_rown (by omega)), (hO a ha).2.1.trans (mj_rown (by omega)), (hO a ha).2.2.trans (mj_rown (by omega))⟩
      have b8 : K2 (m + 6) = (1, 8, 2) := (o2 (m + 6) (by omega)).1.trans a8
      refine mj_aastn (q := 68) dX1_init_67 rfl b8 ⟨by omega, by omega⟩ hL.1 ?_
      have w3 : ∀ a, a ≠ m + 6 → mj_up g2 (m + 6) i (some (m + 7 + 5 * i)) a = g2 a := fun a ha => mj_upr ha
      refine mj_iinc (i := 1) (q := 71) dX1_init_68 rfl rfl (by decide) rfl ?_
      dsimp only [List.set]
      refine mj_goto (q := 49) dX1_init_71 (by decide) ?_
      rw [show nI i + Int32.ofInt 1 = nI (i + 1) from nI_1 i]
      refine ih (i + 1) K2 f2 _ (by omega) (a1.tr (n2 := m) (fun a ha => ⟨(o2 a (by omega)).1, (o2 a (by omega)).2.1, (w3 a (by omega)).trans (o2 a (by omega)).2.2⟩) (Nat.le_refl m)) ((o2 m (by omega)).1.trans a2) ((o2 m (by omega)).2.1.trans a3) ?_ ((o2 (m + 1) (by omega)).1.trans a5) (fun t ht => ?_) ?_ b8 (fun t ht => ?_)
      · rw [w3 m (by omega), (o2 m (by omega)).2.2]; exact a4
      · rw [w3 (m + 1) (by omega), (o2 (m + 1) (by omega)).2.2, (o2 (m + 2 + t) (by omega)).1, (o2 (m + 2 + t) (by omega)).2.1]; exact a6 t ht
      · rw [w3 m (by omega), (o2 m (by omega)).2.2]; exact a7
      · by_cases e : t = i
        · subst e
          exact ⟨by simp [mj_up], hL.eq (fun a q1 q2 => ⟨rfl, w3 a (by omega)⟩), hR⟩
        · refine ⟨?_, (a9 t (by omega)).2.1.eq (fun a q1 q2 => ⟨(o2 a (by omega)).1, (w3 a (by omega)).trans (o2 a (by omega)).2.2⟩), (a9 t (by omega)).2.2.eq (fun a q1 q2 => (o2 a (by omega)).2.1)⟩
          simp only [mj_up]
          rw [if_neg (by omega), (o2 (m + 6) (by omega)).2.2]; exact (a9 t (by omega)).1
  have lifts : ∀ (j i : Nat) (K1 : Nat → mj_K) (f1 : Nat → Nat → Int32) (g1 : Nat → Nat → Option Nat), i + j = 4 → mj_old m K K1 f f1 g g1 → K1 m = (2, 1, 0) → (f1 m = fun _ => 0) → g1 m 0 = some (m + 1) → K1 (m + 1) = (1, 4, 0) → (∀ t, t < i → g1 (m + 1) t = some (m + 2 + t) ∧ K1 (m + 2 + t) = (2, 0, 0) ∧ f1 (m + 2 + t) = fun _ => 0) → mj_W m_X1_init (d + 3) (mjc_A j) (mjs_A j) (fun v h1 => v = none ∧ ∃ K1 f1 g1, h1 = (m + 47, K1, f1, g1) ∧ mj_old m K K1 f f1 g g1 ∧ LMn K1 g1 m ∧ MN0 f1 m) 14 [.ref m, .int (nI i)] [] (m + 2 + i, K1, f1, g1) := by
    intro j
    induction j with
    | zero =>
      intro i K1 f1 g1 hi a1 a2 a3 a4 a5 a6
      have hi : i = 4 := by omega
      subst hi
      show mj_W _ _ (1 + mjc_B 8) (8 + mjs_B 8) _ _ _ _ _
      refine mj_iload_n (i := 1) (q := 15) dX1_init_14 rfl rfl rfl ?_
      refine mj_num1 (v := 4) (q := 16) rfl dX1_init_15 rfl ?_
      refine mj_icmp_ge (tgt := 38) (q := 19) dX1_init_16 (by decide) rfl (fun c_16 => ?_) (fun c_16 => absurd (Int32.le_refl _) c_16)
      refine mj_aload_n (i := 0) (q := 39) dX1_init_38 rfl rfl rfl ?_
      refine mj_num2 (v := 8) (q := 41) (by decide) dX1_init_39 rfl ?_
      refine mj_newq (L := 8) (ci := 2) (q := 44) dX1_init_41 cl_X1_18 (fun _ z => z.2.2.2.2) (by decide) (by decide) (by decide) rfl ?_
      have o2 : ∀ a, a < m + 6 → mj_row K1 (m + 6) (1, 8, 2) a = K1 a ∧ mj_row f1 (m + 6) (fun _ => 0) a = f1 a ∧ mj_row g1 (m + 6) (fun _ => none) a = g1 a := fun a ha => ⟨mj_rown (by omega), mj_rown (by omega), mj_rown (by omega)⟩
      have b2 := (o2 m (by omega)).1.trans a2
      refine mj_putr (q := 47) dX1_init_44 fl_X1_20 rfl rfl b2 rfl rfl rfl (fun _ => rfl) (fun _ => rfl) ?_
      refine mj_num1 (v := nI 0) (q := 48) (by decide) dX1_init_47 rfl ?_
      refine mj_istore_n (i := 1) (q := 49) dX1_init_48 rfl rfl (by decide) rfl ?_
      dsimp only [List.set]
      have w3 : ∀ a, a ≠ m → mj_up (mj_row g1 (m + 6) (fun _ => none)) m 1 (some (m + 6)) a = mj_row g1 (m + 6) (fun _ => none) a := fun a ha => mj_upr ha
      refine runs 8 0 _ _ _ (by omega) (a1.tr (n2 := m) (fun a ha => ⟨(o2 a (by omega)).1, (o2 a (by omega)).2.1, (w3 a (by omega)).trans (o2 a (by omega)).2.2⟩) (Nat.le_refl m)) b2 ((o2 m (by omega)).2.1.trans a3) ?_ ((o2 (m + 1) (by omega)).1.trans a5) (fun t ht => ?_) ?_ mj_rowe (fun t ht => absurd ht (Nat.not_lt_zero t))
      · simp only [mj_up]; rw [if_neg (by omega), (o2 m (by omega)).2.2]; exact a4
      · rw [w3 (m + 1) (by omega), (o2 (m + 1) (by omega)).2.2, (o2 (m + 2 + t) (by omega)).1, (o2 (m + 2 + t) (by omega)).2.1]; exact a6 t ht
      · simp [mj_up]
    | succ j ih =>
      intro i K1 f1 g1 hi a1 a2 a3 a4 a5 a6
      show mj_W _ _ (1 + (0 + mjc_A j)) (5 + (0 + mjs_A j)) _ _ _ _ _
      refine mj_iload_n (i := 1) (q := 15) dX1_init_14 rfl rfl rfl ?_
      refine mj_num1 (v := 4) (q := 16) rfl dX1_init_15 rfl ?_
      refine mj_icmp_ge (tgt := 38) (q := 19) dX1_init_16 (by decide) rfl (fun c_16 => absurd c_16 (nI_ge (a := i) (b := 4) (by omega) (by omega))) (fun c_16 => ?_)
      refine mj_aload_n (i := 0) (q := 20) dX1_init_19 rfl rfl rfl ?_
      refine mj_getr (q := 23) dX1_init_20 fl_X1_11 rfl rfl a2 a4 ?_
      refine mj_iload_n (i := 1) (q := 24) dX1_init_23 rfl rfl rfl ?_
      refine mj_new (ci := 0) (q := 27) dX1_init_24 (by decide) cl_X1_9 in_X0 rfl ?_
      refine mj_dup (q := 28) rfl dX1_init_27 rfl ?_
      refine mj_cIN0m (K := m_X0_init) (q := 31) dX1_init_28 (fun _ z => z.1) ok_X0_init (Nat.le_of_ble_eq_true rfl) (by decide) rfl s_X0_init (fun h1 hq => ?_)
      subst hq
      have o2 : ∀ a, a < m + 2 + i → mj_row K1 (m + 2 + i) (2, 0, 0) a = K1 a ∧ mj_row f1 (m + 2 + i) (fun _ => 0) a = f1 a ∧ mj_row g1 (m + 2 + i) (fun _ => none) a = g1 a := fun a ha => ⟨mj_rown (by omega), mj_rown (by omega), mj_rown (by omega)⟩
      have b5 : mj_row K1 (m + 2 + i) (2, 0, 0) (m + 1) = (1, 4, 0) := (o2 (m + 1) (by omega)).1.trans a5
      refine mj_aastn (q := 32) dX1_init_31 rfl b5 ⟨by omega, by omega⟩ mj_rowe ?_
      have w3 : ∀ a, a ≠ m + 1 → mj_up (mj_row g1 (m + 2 + i) (fun _ => none)) (m + 1) i (some (m + 2 + i)) a = mj_row g1 (m + 2 + i) (fun _ => none) a := fun a ha => mj_upr ha
      refine mj_iinc (i := 1) (q := 35) dX1_init_32 rfl rfl (by decide) rfl ?_
      dsimp only [List.set]
      refine mj_goto (q := 14) dX1_init_35 (by decide) ?_
      rw [show nI i + Int32.ofInt 1 = nI (i + 1) from nI_1 i]
      refine ih (i + 1) _ _ _ (by omega) (a1.tr (n2 := m) (fun a ha => ⟨(o2 a (by omega)).1, (o2 a (by omega)).2.1, (w3 a (by omega)).trans (o2 a (by omega)).2.2⟩) (Nat.le_refl m)) ((o2 m (by omega)).1.trans a2) ((o2 m (by omega)).2.1.trans a3) ?_ b5 (fun t ht => ?_)
      · rw [w3 m (by omega), (o2 m (by omega)).2.2]; exact a4
      · by_cases e : t = i
        · subst e
          exact ⟨by simp [mj_up], mj_rowe, mj_rowe⟩
        · refine ⟨?_, (o2 (m + 2 + t) (by omega)).1.trans (a6 t (by omega)).2.1, (o2 (m + 2 + t) (by omega)).2.1.trans (a6 t (by omega)).2.2⟩
          simp only [mj_up]
          rw [if_neg (by omega), (o2 (m + 1) (by omega)).2.2]; exact (a6 t (by omega)).1
  refine mj_entry (by refine ⟨by decide +kernel, by decide, rfl, Nat.le_of_ble_eq_true rfl⟩) ?_
  show mj_W _ _ _ _ _ 0 [.ref m, .null] [] _
  refine mj_aload_n (i := 0) (q := 1) dX1_init_0 rfl rfl rfl ?_
  refine mj_objInit (q := 4) dX1_init_1 ln_X1_3 (Nat.le_of_ble_eq_true rfl) rfl ?_
  refine mj_aload_n (i := 0) (q := 5) dX1_init_4 rfl rfl rfl ?_
  refine mj_num1 (v := 4) (q := 6) rfl dX1_init_5 rfl ?_
  refine mj_newq (L := 4) (ci := 0) (q := 9) dX1_init_6 cl_X1_9 (fun _ z => z.2.2.2.1) (by decide) (by decide) (by decide) rfl ?_
  have b2 : mj_row K (m + 1) (1, 4, 0) m = (2, 1, 0) := (mj_rown (by omega)).trans hK
  refine mj_putr (q := 12) dX1_init_9 fl_X1_11 rfl rfl b2 rfl rfl rfl (fun _ => rfl) (fun _ => rfl) ?_
  refine mj_num1 (v := nI 0) (q := 13) (by decide) dX1_init_12 rfl ?_
  refine mj_istore_n (i := 1) (q := 14) dX1_init_13 rfl rfl (by decide) rfl ?_
  dsimp only [List.set]
  exact lifts 4 0 _ _ _ (by omega) ((mj_old.new (by omega)).tr (mj_old.putr (Nat.le_refl m)) (Nat.le_refl m)) b2 ((mj_rown (by omega)).trans hf) (by simp [mj_up]) mj_rowe (fun t ht => absurd ht (Nat.not_lt_zero t))
