/-! RULES over the heap of the mini machine -/
theorem mT_le : ∀ ci, mT_N ci ≤ 18 := fun ci => by
  match ci with
  | 0 => decide
  | 1 => decide
  | 2 => decide
  | 3 => decide
  | 4 => decide
  | 5 => decide
  | 6 => decide
  | 7 => decide
  | 8 => decide
  | z + 9 => exact (by decide : (7 : Nat) ≤ 18)
theorem mj_fs_get (as : List Nat) (ci : Nat) (f : Nat → Int32) (g : Nat → Option Nat) {k : Nat} (hk : k < mT_N ci) : (mj_fs as ci f g)[k]? = some (mj_fv as ci f g k) := by
  unfold mj_fs
  rw [List.getElem?_map, List.getElem?_range hk]
  rfl
theorem mj_fs_len (as : List Nat) (ci : Nat) (f : Nat → Int32) (g : Nat → Option Nat) : (mj_fs as ci f g).length = mT_N ci := by
  unfold mj_fs
  rw [List.length_map, List.length_range]
theorem mj_fs_set {as : List Nat} {ci : Nat} {f f1 : Nat → Int32} {g g1 : Nat → Option Nat} {k : Nat} {v : Value} (hk : mj_fv as ci f1 g1 k = v) (hkN : k < mT_N ci)
    (hf : ∀ j, j ≠ k → j ≠ k + 64 → f1 j = f j) (hg : ∀ j, j ≠ k → g1 j = g j) : (mj_fs as ci f g).set k v = mj_fs as ci f1 g1 := by
  have hN := mT_le ci
  apply List.ext_getElem?
  intro j
  rw [List.getElem?_set]
  by_cases hj : k = j
  · subst hj
    rw [if_pos rfl, mj_fs_len, if_pos hkN, mj_fs_get _ _ _ _ hkN, hk]
  · rw [if_neg hj]
    have hj' : j ≠ k := fun e => hj e.symm
    by_cases hN : j < mT_N ci
    · rw [mj_fs_get _ _ _ _ hN, mj_fs_get _ _ _ _ hN]
      unfold mj_fv
      rw [hf j hj' (by omega), hg j hj', hf (j + 64) (by omega) (by omega)]
    · rw [List.getElem?_eq_none (by rw [mj_fs_len]; omega), List.getElem?_eq_none (by rw [mj_fs_len]; omega)]
theorem mj_fv0 {as : List Nat} {ci : Nat} {f : Nat → Int32} {g : Nat → Option Nat} {k : Nat} (h : mT_R ci k = 0) : mj_fv as ci f g k = .int (f k) := by
  unfold mj_fv
  rw [if_neg (by rw [h]; decide), if_neg (by rw [h]; decide)]
theorem mj_fv1 {as : List Nat} {ci : Nat} {f : Nat → Int32} {g : Nat → Option Nat} {k : Nat} (h : mT_R ci k = 1) : mj_fv as ci f g k = va_rf ((g k).map fun b => as.getD b 0) := by
  unfold mj_fv
  rw [if_pos h]
theorem mj_fv2 {as : List Nat} {ci : Nat} {f : Nat → Int32} {g : Nat → Option Nat} {k : Nat} (h : mT_R ci k = 2) : mj_fv as ci f g k = .long (mj_lg (f k) (f (k + 64))) := by
  unfold mj_fv
  rw [if_neg (by rw [h]; decide), if_pos h]
/-! a cell's contents by its kind -/
theorem mj_cell0 {tys : List (ClassId × FieldType)} {e0 : Nat} {as : List Nat} {L x : Nat} {f : Nat → Int32} {g : Nat → Option Nat} {e : va_E} (h : mj_cell tys e0 as (0, L, x) f g e) : ∃ (cA : ClassId) (t0 : Nat), tys[t0]? = some (cA, .int) ∧ e = .inl (cA, L, .inl f) := by
  rcases h with ⟨-, h⟩ | ⟨h, -⟩ | ⟨h, -⟩ | ⟨h, -⟩ | ⟨h, -⟩ <;> first | exact h | cases h
theorem mj_cell1 {tys : List (ClassId × FieldType)} {e0 : Nat} {as : List Nat} {L x : Nat} {f : Nat → Int32} {g : Nat → Option Nat} {e : va_E} (h : mj_cell tys e0 as (1, L, x) f g e) : ∃ (cA : ClassId) (t0 : Nat), tys[t0]? = some (cA, .object (mT_C x)) ∧ e = .inl (cA, L, .inr (.inr (.inr (.inr fun j => (g j).map fun b => as.getD b 0)))) := by
  rcases h with ⟨h, -⟩ | ⟨-, h⟩ | ⟨h, -⟩ | ⟨h, -⟩ | ⟨h, -⟩ <;> first | exact h | cases h
theorem mj_cell2 {tys : List (ClassId × FieldType)} {e0 : Nat} {as : List Nat} {ci x : Nat} {f : Nat → Int32} {g : Nat → Option Nat} {e : va_E} (h : mj_cell tys e0 as (2, ci, x) f g e) : ci < 10 ∧ e = .inr (ci, mj_fs as ci f g) := by
  rcases h with ⟨h, -⟩ | ⟨h, -⟩ | ⟨-, h⟩ | ⟨h, -⟩ | ⟨h, -⟩ <;> first | exact h | cases h
theorem mj_cell4 {tys : List (ClassId × FieldType)} {e0 : Nat} {as : List Nat} {L x : Nat} {f : Nat → Int32} {g : Nat → Option Nat} {e : va_E} (h : mj_cell tys e0 as (4, L, x) f g e) : ∃ (cA : ClassId) (t0 : Nat) (F : Nat → Int64), tys[t0]? = some (cA, .long) ∧ e = .inl (cA, L, .inr (.inl F)) ∧ ∀ j, j < L → F j = mj_lg (f j) (f (j + 64)) := by
  rcases h with ⟨h, -⟩ | ⟨h, -⟩ | ⟨h, -⟩ | ⟨-, h⟩ | ⟨h, -⟩ <;> first | exact h | cases h
theorem mj_cell6 {tys : List (ClassId × FieldType)} {e0 : Nat} {as : List Nat} {L x : Nat} {f : Nat → Int32} {g : Nat → Option Nat} {e : va_E} (h : mj_cell tys e0 as (6, L, x) f g e) : ∃ (cA : ClassId) (t0 : Nat), tys[t0]? = some (cA, .object "java/lang/Object") ∧ e = .inl (cA, L, .inr (.inr (.inr (.inr fun j => (g j).map fun b => as.getD b 0)))) := by
  rcases h with ⟨h, -⟩ | ⟨h, -⟩ | ⟨h, -⟩ | ⟨h, -⟩ | ⟨-, h⟩ <;> first | exact h | cases h
theorem mj_mk0 {tys : List (ClassId × FieldType)} {e0 : Nat} {as : List Nat} {L x t0 : Nat} {cA : ClassId} {f : Nat → Int32} {g : Nat → Option Nat} (h : tys[t0]? = some (cA, .int)) : mj_cell tys e0 as (0, L, x) f g (.inl (cA, L, .inl f)) := Or.inl ⟨rfl, cA, t0, h, rfl⟩
theorem mj_mk1 {tys : List (ClassId × FieldType)} {e0 : Nat} {as : List Nat} {L x t0 : Nat} {cA : ClassId} {f : Nat → Int32} {g : Nat → Option Nat} (h : tys[t0]? = some (cA, .object (mT_C x))) : mj_cell tys e0 as (1, L, x) f g (.inl (cA, L, .inr (.inr (.inr (.inr fun j => (g j).map fun b => as.getD b 0))))) := Or.inr (Or.inl ⟨rfl, cA, t0, h, rfl⟩)
theorem mj_mk2 {tys : List (ClassId × FieldType)} {e0 : Nat} {as : List Nat} {ci x : Nat} {f : Nat → Int32} {g : Nat → Option Nat} (h : ci < 10) : mj_cell tys e0 as (2, ci, x) f g (.inr (ci, mj_fs as ci f g)) := Or.inr (Or.inr (Or.inl ⟨rfl, h, rfl⟩))
theorem mj_mk4 {tys : List (ClassId × FieldType)} {e0 : Nat} {as : List Nat} {L x t0 : Nat} {cA : ClassId} {F : Nat → Int64} {f : Nat → Int32} {g : Nat → Option Nat} (h : tys[t0]? = some (cA, .long)) (hF : ∀ j, j < L → F j = mj_lg (f j) (f (j + 64))) : mj_cell tys e0 as (4, L, x) f g (.inl (cA, L, .inr (.inl F))) := Or.inr (Or.inr (Or.inr (Or.inl ⟨rfl, cA, t0, F, h, rfl, hF⟩)))
theorem mj_mk6 {tys : List (ClassId × FieldType)} {e0 : Nat} {as : List Nat} {L x t0 : Nat} {cA : ClassId} {f : Nat → Int32} {g : Nat → Option Nat} (h : tys[t0]? = some (cA, .object "java/lang/Object")) : mj_cell tys e0 as (6, L, x) f g (.inl (cA, L, .inr (.inr (.inr (.inr fun j => (g j).map fun b => as.getD b 0))))) := Or.inr (Or.inr (Or.inr (Or.inr ⟨rfl, cA, t0, h, rfl⟩)))
theorem mj_getD {as : List Nat} {b e0 : Nat} {ws : va_W} (h : as = b :: e0 :: ws.map (·.1)) {k : Nat} {q : Nat × va_E} (hk : ws[k]? = some q) : as.getD (k + 2) 0 = q.1 := by
  rw [h, List.getD_eq_getElem?_getD, List.getElem?_cons_succ, List.getElem?_cons_succ, List.getElem?_map, hk]
  rfl
/-- a cell's place in the world -/
theorem mj_place {tys : List (ClassId × FieldType)} {as : List Nat} {b e0 n a : Nat} {K : Nat → mj_K} {f : Nat → Nat → Int32} {g : Nat → Nat → Option Nat} {ws : va_W} (h1 : as = b :: e0 :: ws.map (·.1)) (h2 : n = ws.length + 2) (h4 : ∀ k q, ws[k]? = some q → mj_cell tys e0 as (K (k + 2)) (f (k + 2)) (g (k + 2)) q.2) (h8 : (K 0).1 = 3 ∧ (K 1).1 = 7) (ha : a < n) (hK : (K a).1 ≠ 3 ∧ (K a).1 ≠ 7) :
    ∃ (k : Nat) (e : va_E), a = k + 2 ∧ ws[k]? = some (as.getD a 0, e) ∧ mj_cell tys e0 as (K a) (f a) (g a) e := by
  match a, ha, hK with
  | 0, _, hK => exact absurd h8.1 hK.1
  | 1, _, hK => exact absurd h8.2 hK.2
  | k + 2, ha, hK =>
    have hk : k < ws.length := by omega
    have e := List.getElem?_eq_getElem hk
    refine ⟨k, (ws[k]).2, rfl, ?_, h4 k _ e⟩
    rw [mj_getD h1 e, e]
theorem mj_set_map {ws : va_W} {k : Nat} {a : Nat} {e0 e : va_E} (hk : ws[k]? = some (a, e0)) : (ws.set k (a, e)).map (·.1) = ws.map (·.1) := by
  apply List.ext_getElem?
  intro j
  rw [List.getElem?_map, List.getElem?_map, List.getElem?_set]
  by_cases hj : k = j
  · subst hj
    rw [if_pos rfl, hk]
    split
    · rfl
    · rename_i h
      rw [List.getElem?_eq_none (by omega)] at hk
      cases hk
  · rw [if_neg hj]
/-- the script's cell behind a step -/
theorem mj_scr {b B0 L : Nat} {xs : Nat → Int32} {s : State} {H H1 : Heap} {locs locs1 : List Loc} (hX : va_X b L xs s H) (hS : va_S (fun q => B0 ≤ q) s.heap H locs) (hS1 : va_S (fun q => B0 ≤ q) s.heap H1 locs1) (hb : b < B0) (hB : B0 ≤ s.heap.size) : va_X b L xs s H1 := by
  refine va_X.kept hX ?_
  rw [hS1.2.1 b (by omega) (by omega), hS.2.1 b (by omega) (by omega)]
theorem mj_Hp_set {D : va_G} {b e0 n k a : Nat} {as : List Nat} {K : Nat → mj_K} {f f1 : Nat → Nat → Int32} {g g1 : Nat → Nat → Option Nat} {A : Nat → Prop} {s : State} {H1 : Heap} {ws : va_W} {tys : List (ClassId × FieldType)} {ea e : va_E}
    (h1 : as = b :: e0 :: ws.map (·.1)) (h2 : n = ws.length + 2) (h3 : ∀ k j c, g1 k j = some c → c < n) (h4 : ∀ k q, ws[k]? = some q → mj_cell tys e0 as (K (k + 2)) (f (k + 2)) (g (k + 2)) q.2) (h5 : va_K D vwCl tys s) (h8 : (K 0).1 = 3 ∧ (K 1).1 = 7)
    (hk : ws[k]? = some (a, ea)) (hP : va_P D vwCl (ws.set k (a, e)) H1) (hD : va_D A (ws.set k (a, e))) (hX : va_X b (K 0).2.1 (f 0) s H1) (hc : mj_cell tys e0 as (K (k + 2)) (f1 (k + 2)) (g1 (k + 2)) e) (hf : ∀ j, j ≠ k + 2 → f1 j = f j) (hg : ∀ j, j ≠ k + 2 → g1 j = g j) :
    mj_Hp D b e0 as (n, K, f1, g1) A s H1 := by
  refine ⟨ws.set k (a, e), tys, by rw [mj_set_map hk]; exact h1, by rw [List.length_set]; exact h2, h3, ?_, h5, hP, hD, h8, ?_⟩
  · intro j q hj
    rw [List.getElem?_set] at hj
    by_cases hkj : k = j
    · subst hkj
      rw [if_pos rfl] at hj
      split at hj
      · cases hj; exact hc
      · cases hj
    · rw [if_neg hkj] at hj
      show mj_cell tys e0 as (K (j + 2)) (f1 (j + 2)) (g1 (j + 2)) q.2
      rw [hf (j + 2) (by omega), hg (j + 2) (by omega)]
      exact h4 j q hj
  · show va_X b (K 0).2.1 (f1 0) s H1
    rw [hf 0 (by omega)]
    exact hX
section MJ2
variable {M : mj_M} {d mc ms : Nat} {Q : mj_Q} {pc q : Nat} {lv st : List Value} {n : Nat} {K : Nat → mj_K} {f : Nat → Nat → Int32} {g : Nat → Nat → Option Nat}
theorem mj_getf {a idx ci sl x : Nat} (hd : decode M.2.1 pc = .ok (.getfield idx, 3)) (hF : mj_okF M.2.2.2.2.1 idx ci sl) (hr : mT_R ci sl = 0) (hq : pc + 3 = q) (hK : K a = (2, ci, x))
    (k : mj_W M d mc ms Q q lv (.int (f a sl) :: st) (n, K, f, g)) : mj_W M d mc ms Q pc lv (.ref a :: st) (n, K, f, g) := by
  subst hq
  intro p l e R s m args below meth c D b e0 B0 MC MS as0 QQ X E as H locs ls cells slots S
  obtain ⟨s1, s2, s3, s4, s5, s6, s7, s8⟩ := S
  obtain ⟨ws, tys, h1, h2, h3, h4, h5, h6, h7, h8, h9⟩ := id s1
  dsimp only at h2 h3 h4 h8 h9
  obtain ⟨j, e1, rfl, hj, hc⟩ := mj_place h1 h2 h4 h8 s6.1 (by rw [hK]; simp)
  rw [hK] at hc
  obtain ⟨hci, he⟩ := mj_cell2 hc
  subst he
  obtain ⟨f1, f2, f3⟩ := hF
  refine va_get (ref := (mT_T ci sl).1) (C := mT_C ci) (T := mT_T ci) (N := mT_N ci) X.1 X.2.1 X.2.2.2.2.1 (mT_in ci f1) X.2.2.2.1 h5 h6 j hj (mT_at ci f1) sl f2 (X.2.2.2.2.1 _ f3) (fun _ z => z) (mj_fs_get _ _ _ _ f2) hd ?_
  rw [mj_fv0 hr]
  exact k p l e R s m args below meth c D b e0 B0 MC MS as0 QQ X E as H locs ls cells slots ⟨s1, s2, s3, s4, s5, ⟨trivial, s6.2⟩, s7, s8⟩
theorem mj_getr {a idx ci sl x r : Nat} (hd : decode M.2.1 pc = .ok (.getfield idx, 3)) (hF : mj_okF M.2.2.2.2.1 idx ci sl) (hr : mT_R ci sl = 1) (hq : pc + 3 = q) (hK : K a = (2, ci, x)) (hg : g a sl = some r)
    (k : mj_W M d mc ms Q q lv (.ref r :: st) (n, K, f, g)) : mj_W M d mc ms Q pc lv (.ref a :: st) (n, K, f, g) := by
  subst hq
  intro p l e R s m args below meth c D b e0 B0 MC MS as0 QQ X E as H locs ls cells slots S
  obtain ⟨s1, s2, s3, s4, s5, s6, s7, s8⟩ := S
  obtain ⟨ws, tys, h1, h2, h3, h4, h5, h6, h7, h8, h9⟩ := id s1
  dsimp only at h2 h3 h4 h8 h9
  obtain ⟨j, e1, rfl, hj, hc⟩ := mj_place h1 h2 h4 h8 s6.1 (by rw [hK]; simp)
  rw [hK] at hc
  obtain ⟨hci, he⟩ := mj_cell2 hc
  subst he
  obtain ⟨f1, f2, f3⟩ := hF
  refine va_get (ref := (mT_T ci sl).1) (C := mT_C ci) (T := mT_T ci) (N := mT_N ci) X.1 X.2.1 X.2.2.2.2.1 (mT_in ci f1) X.2.2.2.1 h5 h6 j hj (mT_at ci f1) sl f2 (X.2.2.2.2.1 _ f3) (fun _ z => z) (mj_fs_get _ _ _ _ f2) hd ?_
  rw [mj_fv1 hr, hg]
  exact k p l e R s m args below meth c D b e0 B0 MC MS as0 QQ X E as H locs ls cells slots ⟨s1, s2, s3, s4, s5, ⟨h3 _ _ _ hg, s6.2⟩, s7, s8⟩
theorem mj_putf {a idx ci sl x : Nat} {v : Int32} (hd : decode M.2.1 pc = .ok (.putfield idx, 3)) (hF : mj_okF M.2.2.2.2.1 idx ci sl) (hr : mT_R ci sl = 0) (hq : pc + 3 = q) (hK : K a = (2, ci, x)) (hfin : (mT_T ci sl).2.2.2 = false) (hn : narrow (mT_ty ci sl) (.int v) = .int v) (hfit : fits (mT_ty ci sl) (.int v) = true)
    (k : mj_W M d mc ms Q q lv st (n, K, mj_up f a sl v, g)) : mj_W M d mc ms Q pc lv (.int v :: .ref a :: st) (n, K, f, g) := by
  subst hq
  intro p l e R s m args below meth c D b e0 B0 MC MS as0 QQ X E as H locs ls cells slots S
  obtain ⟨s1, s2, s3, s4, s5, s6, s7, s8⟩ := S
  obtain ⟨ws, tys, h1, h2, h3, h4, h5, h6, h7, h8, h9⟩ := id s1
  dsimp only at h2 h3 h4 h8 h9
  obtain ⟨j, e1, rfl, hj, hc⟩ := mj_place h1 h2 h4 h8 s6.2.1 (by rw [hK]; simp)
  rw [hK] at hc
  obtain ⟨hci, he⟩ := mj_cell2 hc
  subst he
  obtain ⟨f1, f2, f3⟩ := hF
  refine va_put (ref := (mT_T ci sl).1) (C := mT_C ci) (T := mT_T ci) (N := mT_N ci) X.1 X.2.1 X.2.2.2.2.1 (mT_in ci f1) (mT_ty ci) (mT_tyok ci f1) (mT_nm ci f1) X.2.2.2.1 h5 h6 h7 s2 j hj (mT_at ci f1) sl f2 (X.2.2.2.2.1 _ f3) (fun _ z => z) hfin (mT_tyok ci f1 sl f2) hn hfit (by rw [mj_fs_len]; exact f2) hd (fun H1 locs1 hP hD hS => ?_)
  refine k p l e R s m args below meth c D b e0 B0 MC MS as0 QQ X E as H1 locs1 ls cells slots ⟨?_, hS, s3, s4, s5, s6.2.2, s7, s8⟩
  refine mj_Hp_set h1 h2 h3 h4 h5 h8 hj hP hD (mj_scr h9 s2 hS X.2.2.2.2.2.2.2.2.2.2.2.2.2.1 X.2.2.2.2.2.2.2.2.2.2.2.2.2.2.1) ?_ (fun i hi => by funext z; simp [mj_up, hi]) (fun i hi => rfl)
  rw [hK, mj_fs_set (f1 := mj_up f (j + 2) sl v (j + 2)) (g1 := g (j + 2)) (by rw [mj_fv0 hr]; simp [mj_up]; rfl) f2 (fun i hi _ => by simp [mj_up, hi]) (fun i hi => rfl)]
  exact mj_mk2 f1
theorem mj_putr {a idx ci sl x r : Nat} (hd : decode M.2.1 pc = .ok (.putfield idx, 3)) (hF : mj_okF M.2.2.2.2.1 idx ci sl) (hr : mT_R ci sl = 1) (hq : pc + 3 = q) (hK : K a = (2, ci, x)) (hfin : (mT_T ci sl).2.2.2 = true) (hi : M.2.2.2.2.2.1 = true) (hde : (mT_T ci sl).1 = M.2.2.2.2.1) (hn : ∀ z, narrow (mT_ty ci sl) (.ref z) = .ref z) (hfit : ∀ z, fits (mT_ty ci sl) (.ref z) = true)
    (k : mj_W M d mc ms Q q lv st (n, K, f, mj_up g a sl (some r))) : mj_W M d mc ms Q pc lv (.ref r :: .ref a :: st) (n, K, f, g) := by
  subst hq
  intro p l e R s m args below meth c D b e0 B0 MC MS as0 QQ X E as H locs ls cells slots S
  obtain ⟨s1, s2, s3, s4, s5, s6, s7, s8⟩ := S
  obtain ⟨ws, tys, h1, h2, h3, h4, h5, h6, h7, h8, h9⟩ := id s1
  dsimp only at h2 h3 h4 h8 h9
  obtain ⟨j, e1, rfl, hj, hc⟩ := mj_place h1 h2 h4 h8 s6.2.1 (by rw [hK]; simp)
  rw [hK] at hc
  obtain ⟨hci, he⟩ := mj_cell2 hc
  subst he
  obtain ⟨f1, f2, f3⟩ := hF
  refine va_putF (ref := (mT_T ci sl).1) (C := mT_C ci) (T := mT_T ci) (N := mT_N ci) X.1 X.2.1 X.2.2.2.2.1 (mT_in ci f1) (mT_ty ci) (mT_tyok ci f1) (mT_nm ci f1) X.2.2.2.1 h5 h6 h7 s2 j hj (mT_at ci f1) sl f2 (X.2.2.2.2.1 _ f3) (fun _ z => z) hfin (X.2.2.2.2.2.2.2.2.1 hi) hde (mT_tyok ci f1 sl f2) (hn _) (hfit _) (by rw [mj_fs_len]; exact f2) hd (fun H1 locs1 hP hD hS => ?_)
  refine k p l e R s m args below meth c D b e0 B0 MC MS as0 QQ X E as H1 locs1 ls cells slots ⟨?_, hS, s3, s4, s5, s6.2.2, s7, s8⟩
  refine mj_Hp_set h1 h2 ?_ h4 h5 h8 hj hP hD (mj_scr h9 s2 hS X.2.2.2.2.2.2.2.2.2.2.2.2.2.1 X.2.2.2.2.2.2.2.2.2.2.2.2.2.2.1) ?_ (fun i hi => rfl) (fun i hi => by funext z; simp [mj_up, hi])
  · intro k0 j0 c0 hc0
    unfold mj_up at hc0
    split at hc0
    · cases hc0; exact s6.1
    · exact h3 _ _ _ hc0
  rw [hK, mj_fs_set (f1 := f (j + 2)) (g1 := mj_up g (j + 2) sl (some r) (j + 2)) (by rw [mj_fv1 hr]; simp [mj_up]; rfl) f2 (fun i hi _ => rfl) (fun i hi => by simp [mj_up, hi])]
  exact mj_mk2 f1
theorem mj_iald {a L : Nat} {i : Int32} (hd : decode M.2.1 pc = .ok (.iaload, 1)) (hq : pc + 1 = q) (hK : K a = (0, L, 0)) (hin : vp_in i L)
    (k : mj_W M d mc ms Q q lv (.int (f a i.toNatClampNeg) :: st) (n, K, f, g)) : mj_W M d mc ms Q pc lv (.int i :: .ref a :: st) (n, K, f, g) := by
  subst hq
  intro p l e R s m args below meth c D b e0 B0 MC MS as0 QQ X E as H locs ls cells slots S
  obtain ⟨s1, s2, s3, s4, s5, s6, s7, s8⟩ := S
  obtain ⟨ws, tys, h1, h2, h3, h4, h5, h6, h7, h8, h9⟩ := id s1
  dsimp only at h2 h3 h4 h8 h9
  obtain ⟨j, e1, rfl, hj, hc⟩ := mj_place h1 h2 h4 h8 s6.2.1 (by rw [hK]; simp)
  rw [hK] at hc
  obtain ⟨cA, t0, ht, he⟩ := mj_cell0 hc
  subst he
  exact va_iald X.1 X.2.1 h5 h6 j t0 hj ht hin hd (k p l e R s m args below meth c D b e0 B0 MC MS as0 QQ X E as H locs ls cells slots ⟨s1, s2, s3, s4, s5, ⟨trivial, s6.2.2⟩, s7, s8⟩)
theorem mj_iast {a L : Nat} {i v : Int32} (hd : decode M.2.1 pc = .ok (.iastore, 1)) (hq : pc + 1 = q) (hK : K a = (0, L, 0)) (hin : vp_in i L)
    (k : mj_W M d mc ms Q q lv st (n, K, mj_up f a i.toNatClampNeg v, g)) : mj_W M d mc ms Q pc lv (.int v :: .int i :: .ref a :: st) (n, K, f, g) := by
  subst hq
  intro p l e R s m args below meth c D b e0 B0 MC MS as0 QQ X E as H locs ls cells slots S
  obtain ⟨s1, s2, s3, s4, s5, s6, s7, s8⟩ := S
  obtain ⟨ws, tys, h1, h2, h3, h4, h5, h6, h7, h8, h9⟩ := id s1
  dsimp only at h2 h3 h4 h8 h9
  obtain ⟨j, e1, rfl, hj, hc⟩ := mj_place h1 h2 h4 h8 s6.2.2.1 (by rw [hK]; simp)
  rw [hK] at hc
  obtain ⟨cA, t0, ht, he⟩ := mj_cell0 hc
  subst he
  refine va_iast X.1 X.2.1 h5 h6 h7 s2 j t0 hj ht hin hd (fun H1 locs1 hP hD hS => ?_)
  refine k p l e R s m args below meth c D b e0 B0 MC MS as0 QQ X E as H1 locs1 ls cells slots ⟨?_, hS, s3, s4, s5, s6.2.2.2, s7, s8⟩
  refine mj_Hp_set h1 h2 h3 h4 h5 h8 hj hP hD (mj_scr h9 s2 hS X.2.2.2.2.2.2.2.2.2.2.2.2.2.1 X.2.2.2.2.2.2.2.2.2.2.2.2.2.2.1) ?_ (fun i hi => by funext z; simp [mj_up, hi]) (fun i hi => rfl)
  rw [hK, show upd (f (j + 2)) i.toNatClampNeg v = mj_up f (j + 2) i.toNatClampNeg v (j + 2) from by funext z; simp [mj_up, upd]]
  exact mj_mk0 ht
theorem mj_aald {a L ci r : Nat} {i : Int32} (hd : decode M.2.1 pc = .ok (.aaload, 1)) (hq : pc + 1 = q) (hK : K a = (1, L, ci)) (hin : vp_in i L) (hg : g a i.toNatClampNeg = some r)
    (k : mj_W M d mc ms Q q lv (.ref r :: st) (n, K, f, g)) : mj_W M d mc ms Q pc lv (.int i :: .ref a :: st) (n, K, f, g) := by
  subst hq
  intro p l e R s m args below meth c D b e0 B0 MC MS as0 QQ X E as H locs ls cells slots S
  obtain ⟨s1, s2, s3, s4, s5, s6, s7, s8⟩ := S
  obtain ⟨ws, tys, h1, h2, h3, h4, h5, h6, h7, h8, h9⟩ := id s1
  dsimp only at h2 h3 h4 h8 h9
  obtain ⟨j, e1, rfl, hj, hc⟩ := mj_place h1 h2 h4 h8 s6.2.1 (by rw [hK]; simp)
  rw [hK] at hc
  obtain ⟨cA, t0, ht, he⟩ := mj_cell1 hc
  subst he
  · refine va_aldq X.1 X.2.1 h5 h6 j t0 hj ht hin hd ?_
    rw [hg]
    exact k p l e R s m args below meth c D b e0 B0 MC MS as0 QQ X E as H locs ls cells slots ⟨s1, s2, s3, s4, s5, ⟨h3 _ _ _ hg, s6.2.2⟩, s7, s8⟩
theorem mj_aast {a L ci r y : Nat} {i : Int32} (hd : decode M.2.1 pc = .ok (.aastore, 1)) (hq : pc + 1 = q) (hK : K a = (1, L, ci)) (hin : vp_in i L) (hr : K r = (2, ci, y))
    (k : mj_W M d mc ms Q q lv st (n, K, f, mj_up g a i.toNatClampNeg (some r))) : mj_W M d mc ms Q pc lv (.ref r :: .int i :: .ref a :: st) (n, K, f, g) := by
  subst hq
  intro p l e R s m args below meth c D b e0 B0 MC MS as0 QQ X E as H locs ls cells slots S
  obtain ⟨s1, s2, s3, s4, s5, s6, s7, s8⟩ := S
  obtain ⟨ws, tys, h1, h2, h3, h4, h5, h6, h7, h8, h9⟩ := id s1
  dsimp only at h2 h3 h4 h8 h9
  obtain ⟨j, e1, rfl, hj, hc⟩ := mj_place h1 h2 h4 h8 s6.2.2.1 (by rw [hK]; simp)
  obtain ⟨j2, e2, rfl, hj2, hc2⟩ := mj_place h1 h2 h4 h8 s6.1 (by rw [hr]; simp)
  rw [hK] at hc
  obtain ⟨cA, t0, ht, he⟩ := mj_cell1 hc
  rw [hr] at hc2
  obtain ⟨hci, he2⟩ := mj_cell2 hc2
  subst he
  subst he2
  refine va_astq X.1 X.2.1 h5 h6 h7 s2 j t0 j2 ci hj ht hj2 (mT_at ci hci) hin hd (fun H1 locs1 hP hD hS => ?_)
  refine k p l e R s m args below meth c D b e0 B0 MC MS as0 QQ X E as H1 locs1 ls cells slots ⟨?_, hS, s3, s4, s5, s6.2.2.2, s7, s8⟩
  refine mj_Hp_set h1 h2 ?_ h4 h5 h8 hj hP hD (mj_scr h9 s2 hS X.2.2.2.2.2.2.2.2.2.2.2.2.2.1 X.2.2.2.2.2.2.2.2.2.2.2.2.2.2.1) ?_ (fun i hi => rfl) (fun i hi => by funext z; simp [mj_up, hi])
  · intro k0 j0 c0 hc0
    unfold mj_up at hc0
    split at hc0
    · cases hc0; exact s6.1
    · exact h3 _ _ _ hc0
  rw [hK, show va_up (fun j2 => (g (j + 2) j2).map fun b => as.getD b 0) i.toNatClampNeg (some (as.getD (j2 + 2) 0)) = fun z => (mj_up g (j + 2) i.toNatClampNeg (some (j2 + 2)) (j + 2) z).map fun b => as.getD b 0 from by
    funext z
    simp only [mj_up, va_up]
    by_cases hz : z = i.toNatClampNeg
    · simp [hz]
    · simp [hz]]
  exact mj_mk1 ht
theorem mj_alen {a L t : Nat} {v : Int32} (hd : decode M.2.1 pc = .ok (.arraylength, 1)) (hq : pc + 1 = q) (hK : K a = (0, L, t)) (hv : Int32.ofNat L = v)
    (k : mj_W M d mc ms Q q lv (.int v :: st) (n, K, f, g)) : mj_W M d mc ms Q pc lv (.ref a :: st) (n, K, f, g) := by
  subst hq
  intro p l e R s m args below meth c D b e0 B0 MC MS as0 QQ X E as H locs ls cells slots S
  obtain ⟨s1, s2, s3, s4, s5, s6, s7, s8⟩ := S
  obtain ⟨ws, tys, h1, h2, h3, h4, h5, h6, h7, h8, h9⟩ := id s1
  dsimp only at h2 h3 h4 h8 h9
  obtain ⟨j, e1, rfl, hj, hc⟩ := mj_place h1 h2 h4 h8 s6.1 (by rw [hK]; simp)
  rw [hK] at hc
  obtain ⟨cA, t0, ht, he⟩ := mj_cell0 hc
  subst he
  exact va_alen X.1 X.2.1 h5 h6 j t0 hj ht hv hd (k p l e R s m args below meth c D b e0 B0 MC MS as0 QQ X E as H locs ls cells slots ⟨s1, s2, s3, s4, s5, ⟨trivial, s6.2⟩, s7, s8⟩)
/-- the script: cell 0 -/
theorem mj_sld {L : Nat} {i : Int32} (hd : decode M.2.1 pc = .ok (.iaload, 1)) (hq : pc + 1 = q) (hK : K 0 = (3, L, 0)) (hin : vp_in i L)
    (k : mj_W M d mc ms Q q lv (.int (f 0 i.toNatClampNeg) :: st) (n, K, f, g)) : mj_W M d mc ms Q pc lv (.int i :: .ref 0 :: st) (n, K, f, g) := by
  subst hq
  intro p l e R s m args below meth c D b e0 B0 MC MS as0 QQ X E as H locs ls cells slots S
  obtain ⟨s1, s2, s3, s4, s5, s6, s7, s8⟩ := S
  obtain ⟨ws, tys, h1, h2, h3, h4, h5, h6, h7, h8, h9⟩ := id s1
  dsimp only at h2 h3 h4 h8 h9
  rw [hK] at h9
  obtain ⟨scr, g1, g2, g3, g4, g5⟩ := h9
  have hlt : i.toNatClampNeg < L := Nat.not_le.mp fun z => hin (Or.inr z)
  have h0 : as.getD 0 0 = b := by rw [h1]; rfl
  have hst : List.map (mj_t as) (.int i :: .ref 0 :: st) = .int i :: .ref b :: st.map (mj_t as) := by
    show _ :: Value.ref (as.getD 0 0) :: _ = _
    rw [h0]
    rfl
  rw [hst]
  exact W.iald (v := .int (f 0 i.toNatClampNeg)) X.1 X.2.1 g1 g2 g3 (by rw [g4]; exact hin) (g5 _ hlt) rfl rfl hd (k p l e R s m args below meth c D b e0 B0 MC MS as0 QQ X E as H locs ls cells slots ⟨s1, s2, s3, s4, s5, ⟨trivial, s6.2.2⟩, s7, s8⟩)
theorem mj_slen {L : Nat} {v : Int32} (hd : decode M.2.1 pc = .ok (.arraylength, 1)) (hq : pc + 1 = q) (hK : K 0 = (3, L, 0)) (hv : Int32.ofNat L = v)
    (k : mj_W M d mc ms Q q lv (.int v :: st) (n, K, f, g)) : mj_W M d mc ms Q pc lv (.ref 0 :: st) (n, K, f, g) := by
  subst hq
  subst hv
  intro p l e R s m args below meth c D b e0 B0 MC MS as0 QQ X E as H locs ls cells slots S
  obtain ⟨s1, s2, s3, s4, s5, s6, s7, s8⟩ := S
  obtain ⟨ws, tys, h1, h2, h3, h4, h5, h6, h7, h8, h9⟩ := id s1
  dsimp only at h2 h3 h4 h8 h9
  rw [hK] at h9
  obtain ⟨scr, g1, g2, g3, g4, g5⟩ := h9
  have h0 : as.getD 0 0 = b := by rw [h1]; rfl
  have hst : List.map (mj_t as) (.ref 0 :: st) = .ref b :: st.map (mj_t as) := by
    show Value.ref (as.getD 0 0) :: _ = _
    rw [h0]
  rw [hst]
  exact W.alen (n := Int32.ofNat L) X.1 X.2.1 g1 g2 (by rw [g4] <;> rfl) rfl rfl hd (k p l e R s m args below meth c D b e0 B0 MC MS as0 QQ X E as H locs ls cells slots ⟨s1, s2, s3, s4, s5, ⟨trivial, s6.2⟩, s7, s8⟩)
theorem mj_getl {a idx ci sl x : Nat} (hd : decode M.2.1 pc = .ok (.getfield idx, 3)) (hF : mj_okF M.2.2.2.2.1 idx ci sl) (hr : mT_R ci sl = 2) (hq : pc + 3 = q) (hK : K a = (2, ci, x))
    (k : mj_W M d mc ms Q q lv (.long (mj_lg (f a sl) (f a (sl + 64))) :: st) (n, K, f, g)) : mj_W M d mc ms Q pc lv (.ref a :: st) (n, K, f, g) := by
  subst hq
  intro p l e R s m args below meth c D b e0 B0 MC MS as0 QQ X E as H locs ls cells slots S
  obtain ⟨s1, s2, s3, s4, s5, s6, s7, s8⟩ := S
  obtain ⟨ws, tys, h1, h2, h3, h4, h5, h6, h7, h8, h9⟩ := id s1
  dsimp only at h2 h3 h4 h8 h9
  obtain ⟨j, e1, rfl, hj, hc⟩ := mj_place h1 h2 h4 h8 s6.1 (by rw [hK]; simp)
  rw [hK] at hc
  obtain ⟨hci, he⟩ := mj_cell2 hc
  subst he
  obtain ⟨f1, f2, f3⟩ := hF
  refine va_get (ref := (mT_T ci sl).1) (C := mT_C ci) (T := mT_T ci) (N := mT_N ci) X.1 X.2.1 X.2.2.2.2.1 (mT_in ci f1) X.2.2.2.1 h5 h6 j hj (mT_at ci f1) sl f2 (X.2.2.2.2.1 _ f3) (fun _ z => z) (mj_fs_get _ _ _ _ f2) hd ?_
  rw [mj_fv2 hr]
  exact k p l e R s m args below meth c D b e0 B0 MC MS as0 QQ X E as H locs ls cells slots ⟨s1, s2, s3, s4, s5, ⟨trivial, s6.2⟩, s7, s8⟩
/-- a long is put as two ints -/
def mj_upl (f : Nat → Nat → Int32) (a k : Nat) (v : Int64) : Nat → Nat → Int32 := mj_up (mj_up f a k (mj_lh v)) a (k + 64) (mj_ll v)
theorem mj_upl_get (f : Nat → Nat → Int32) (a k : Nat) (v : Int64) : mj_lg (mj_upl f a k v a k) (mj_upl f a k v a (k + 64)) = v := by
  have e1 : mj_upl f a k v a k = mj_lh v := by simp [mj_upl, mj_up]
  have e2 : mj_upl f a k v a (k + 64) = mj_ll v := by simp [mj_upl, mj_up]
  rw [e1, e2]
  exact mj_lg_eq v
theorem mj_putl {a idx ci sl x : Nat} {v : Int64} (hd : decode M.2.1 pc = .ok (.putfield idx, 3)) (hF : mj_okF M.2.2.2.2.1 idx ci sl) (hr : mT_R ci sl = 2) (hq : pc + 3 = q) (hK : K a = (2, ci, x)) (hfin : (mT_T ci sl).2.2.2 = false) (hn : narrow (mT_ty ci sl) (.long v) = .long v) (hfit : fits (mT_ty ci sl) (.long v) = true)
    (k : mj_W M d mc ms Q q lv st (n, K, mj_upl f a sl v, g)) : mj_W M d mc ms Q pc lv (.long v :: .ref a :: st) (n, K, f, g) := by
  subst hq
  intro p l e R s m args below meth c D b e0 B0 MC MS as0 QQ X E as H locs ls cells slots S
  obtain ⟨s1, s2, s3, s4, s5, s6, s7, s8⟩ := S
  obtain ⟨ws, tys, h1, h2, h3, h4, h5, h6, h7, h8, h9⟩ := id s1
  dsimp only at h2 h3 h4 h8 h9
  obtain ⟨j, e1, rfl, hj, hc⟩ := mj_place h1 h2 h4 h8 s6.2.1 (by rw [hK]; simp)
  rw [hK] at hc
  obtain ⟨hci, he⟩ := mj_cell2 hc
  subst he
  obtain ⟨f1, f2, f3⟩ := hF
  refine va_put (ref := (mT_T ci sl).1) (C := mT_C ci) (T := mT_T ci) (N := mT_N ci) X.1 X.2.1 X.2.2.2.2.1 (mT_in ci f1) (mT_ty ci) (mT_tyok ci f1) (mT_nm ci f1) X.2.2.2.1 h5 h6 h7 s2 j hj (mT_at ci f1) sl f2 (X.2.2.2.2.1 _ f3) (fun _ z => z) hfin (mT_tyok ci f1 sl f2) hn hfit (by rw [mj_fs_len]; exact f2) hd (fun H1 locs1 hP hD hS => ?_)
  refine k p l e R s m args below meth c D b e0 B0 MC MS as0 QQ X E as H1 locs1 ls cells slots ⟨?_, hS, s3, s4, s5, s6.2.2, s7, s8⟩
  refine mj_Hp_set h1 h2 h3 h4 h5 h8 hj hP hD (mj_scr h9 s2 hS X.2.2.2.2.2.2.2.2.2.2.2.2.2.1 X.2.2.2.2.2.2.2.2.2.2.2.2.2.2.1) ?_ (fun i hi => by funext z; simp [mj_upl, mj_up, hi]) (fun i hi => rfl)
  rw [hK, mj_fs_set (f1 := mj_upl f (j + 2) sl v (j + 2)) (g1 := g (j + 2)) (by rw [mj_fv2 hr, mj_upl_get]; rfl) f2 (fun i hi hi2 => by simp [mj_upl, mj_up, hi, hi2]) (fun i hi => rfl)]
  exact mj_mk2 f1
theorem mj_lald {a L x : Nat} {i : Int32} (hd : decode M.2.1 pc = .ok (.laload, 1)) (hq : pc + 1 = q) (hK : K a = (4, L, x)) (hin : vp_in i L)
    (k : mj_W M d mc ms Q q lv (.long (mj_lg (f a i.toNatClampNeg) (f a (i.toNatClampNeg + 64))) :: st) (n, K, f, g)) : mj_W M d mc ms Q pc lv (.int i :: .ref a :: st) (n, K, f, g) := by
  subst hq
  intro p l e R s m args below meth c D b e0 B0 MC MS as0 QQ X E as H locs ls cells slots S
  obtain ⟨s1, s2, s3, s4, s5, s6, s7, s8⟩ := S
  obtain ⟨ws, tys, h1, h2, h3, h4, h5, h6, h7, h8, h9⟩ := id s1
  dsimp only at h2 h3 h4 h8 h9
  obtain ⟨j, e1, rfl, hj, hc⟩ := mj_place h1 h2 h4 h8 s6.2.1 (by rw [hK]; simp)
  rw [hK] at hc
  obtain ⟨cA, t0, F, ht, he, hF⟩ := mj_cell4 hc
  subst he
  have hF := hF _ (Nat.not_le.mp fun z => hin (Or.inr z))
  refine va_lald X.1 X.2.1 h5 h6 j t0 hj ht hin hd ?_
  rw [hF]
  exact (k p l e R s m args below meth c D b e0 B0 MC MS as0 QQ X E as H locs ls cells slots ⟨s1, s2, s3, s4, s5, ⟨trivial, s6.2.2⟩, s7, s8⟩)
/-- out[0] -/
theorem mj_last0 {a x : Nat} {v : Int64} (hd : decode M.2.1 pc = .ok (.lastore, 1)) (hq : pc + 1 = q) (hK : K a = (4, 1, x))
    (k : mj_W M d mc ms Q q lv st (n, K, mj_upl f a 0 v, g)) : mj_W M d mc ms Q pc lv (.long v :: .int 0 :: .ref a :: st) (n, K, f, g) := by
  subst hq
  intro p l e R s m args below meth c D b e0 B0 MC MS as0 QQ X E as H locs ls cells slots S
  obtain ⟨s1, s2, s3, s4, s5, s6, s7, s8⟩ := S
  obtain ⟨ws, tys, h1, h2, h3, h4, h5, h6, h7, h8, h9⟩ := id s1
  dsimp only at h2 h3 h4 h8 h9
  obtain ⟨j, e1, rfl, hj, hc⟩ := mj_place h1 h2 h4 h8 s6.2.2.1 (by rw [hK]; simp)
  rw [hK] at hc
  obtain ⟨cA, t0, F, ht, he, hF⟩ := mj_cell4 hc
  subst he
  refine va_last (i := 0) X.1 X.2.1 h5 h6 h7 s2 j t0 hj ht (vp_in_nI (n := 0) (N := 1) (by decide) (by decide)) hd (fun H1 locs1 hP hD hS => ?_)
  refine k p l e R s m args below meth c D b e0 B0 MC MS as0 QQ X E as H1 locs1 ls cells slots ⟨?_, hS, s3, s4, s5, s6.2.2.2, s7, s8⟩
  refine mj_Hp_set h1 h2 h3 h4 h5 h8 hj hP hD (mj_scr h9 s2 hS X.2.2.2.2.2.2.2.2.2.2.2.2.2.1 X.2.2.2.2.2.2.2.2.2.2.2.2.2.2.1) ?_ (fun i hi => by funext z; simp [mj_upl, mj_up, hi]) (fun i hi => rfl)
  rw [hK]
  refine mj_mk4 ht (fun i hi => ?_)
  have hi0 : i = 0 := by omega
  subst hi0
  rw [mj_upl_get]
  rfl
end MJ2
