/-! NEW CELLS, and the JDK's own: Object(), arraycopy, the two natives of Math.abs(double) -/
theorem mj_cell_ext {tys t2 : List (ClassId × FieldType)} {as ex : List Nat} {K : mj_K} {f : Nat → Int32} {g : Nat → Option Nat} {e : va_E} (hg : ∀ j c, g j = some c → c < as.length) (h : mj_cell tys as K f g e) : mj_cell (tys ++ t2) (as ++ ex) K f g e := by
  have hr : ∀ j, ((g j).map fun b => (as ++ ex).getD b 0) = ((g j).map fun b => as.getD b 0) := by
    intro j
    cases hj : g j with
    | none => rfl
    | some c =>
      have hc := hg j c hj
      show some ((as ++ ex).getD c 0) = some (as.getD c 0)
      rw [List.getD_eq_getElem?_getD, List.getD_eq_getElem?_getD, List.getElem?_append_left hc]
  have ht : ∀ (t0 : Nat) (x : ClassId × FieldType), tys[t0]? = some x → (tys ++ t2)[t0]? = some x := fun t0 x hx => by
    rw [List.getElem?_append_left (List.getElem?_eq_some_iff.mp hx).1]; exact hx
  rcases h with ⟨h1, cA, t0, h2, h3⟩ | ⟨h1, cA, t0, h2, h3⟩ | ⟨h1, h2, h3⟩
  · exact Or.inl ⟨h1, cA, t0, ht _ _ h2, h3⟩
  · refine Or.inr (Or.inl ⟨h1, cA, t0, ht _ _ h2, ?_⟩)
    rw [h3]
    congr 7
    funext j
    exact (hr j).symm
  · refine Or.inr (Or.inr ⟨h1, h2, ?_⟩)
    rw [h3]
    congr 2
    unfold mj_fs
    apply List.map_congr_left
    intro k _
    rw [hr k]
theorem mj_Hp_new {D : va_G} {b n a : Nat} {as : List Nat} {K : Nat → mj_K} {f : Nat → Nat → Int32} {g : Nat → Nat → Option Nat} {A : Nat → Prop} {s : State} {H1 : Heap} {ws : va_W} {tys t2 : List (ClassId × FieldType)} {e : va_E} {kk : mj_K}
    (h1 : as = b :: ws.map (·.1)) (h2 : n = ws.length + 1) (h3 : ∀ k j c, g k j = some c → c < n) (h4 : ∀ k q, ws[k]? = some q → mj_cell tys as (K (k + 1)) (f (k + 1)) (g (k + 1)) q.2) (h5 : va_K D vwCl (tys ++ t2) s) (h8 : (K 0).1 = 3)
    (hP : va_P D vwCl (ws ++ [(a, e)]) H1) (hD : va_D A (ws ++ [(a, e)])) (hX : va_X b (K 0).2.1 (f 0) s H1) (hc : mj_cell (tys ++ t2) (as ++ [a]) kk (fun _ => 0) (fun _ => none) e) :
    mj_Hp D b (as ++ [a]) (n + 1, mj_row K n kk, mj_row f n (fun _ => 0), mj_row g n (fun _ => none)) A s H1 := by
  have hlen : as.length = n := by rw [h1, List.length_cons, List.length_map, h2]
  refine ⟨ws ++ [(a, e)], tys ++ t2, by rw [h1, List.map_append]; rfl, by show n + 1 = _; rw [List.length_append, h2]; rfl, ?_, ?_, h5, hP, hD, ?_, ?_⟩
  · intro k j c hc
    show c < n + 1
    have hc : mj_row g n (fun _ => none) k j = some c := hc
    unfold mj_row at hc
    split at hc
    · cases hc
    · exact Nat.lt_succ_of_lt (h3 _ _ _ hc)
  · intro k q hq
    show mj_cell (tys ++ t2) (as ++ [a]) (mj_row K n kk (k + 1)) (mj_row f n (fun _ => 0) (k + 1)) (mj_row g n (fun _ => none) (k + 1)) q.2
    by_cases hk : k < ws.length
    · rw [List.getElem?_append_left hk] at hq
      unfold mj_row
      rw [if_neg (by omega), if_neg (by omega), if_neg (by omega)]
      exact mj_cell_ext (fun j c hj => by rw [hlen]; exact h3 _ _ _ hj) (h4 k q hq)
    · have hk2 : k = ws.length := by
        have := (List.getElem?_eq_some_iff.mp hq).1
        rw [List.length_append] at this
        simp at this
        omega
      subst hk2
      rw [List.getElem?_concat_length] at hq
      cases hq
      unfold mj_row
      rw [if_pos (by omega), if_pos (by omega), if_pos (by omega)]
      exact hc
  · show (mj_row K n kk 0).1 = 3
    unfold mj_row
    rw [if_neg (by omega)]
    exact h8
  · show va_X b (mj_row K n kk 0).2.1 (mj_row f n (fun _ => 0) 0) s H1
    unfold mj_row
    rw [if_neg (by omega), if_neg (by omega)]
    exact hX
theorem mj_dflt : ∀ ci, ci < 6 → ∀ (as : List Nat) (j : Nat), j < mT_N ci → defaultValue (mT_ty ci j) = vp_V (mj_fs as ci (fun _ => 0) (fun _ => none)) j := by
  intro ci hci as j hj
  unfold vp_V
  rw [List.getD_eq_getElem?_getD, mj_fs_get _ _ _ _ hj]
  match ci, hci with
  | 0, _ =>
    match j, hj with
    | 0, _ => rfl
    | 1, _ => rfl
    | 2, _ => rfl
    | 3, _ => rfl
    | 4, _ => rfl
    | z + 5, h => exact absurd h (by show ¬ z + 5 < 5; omega)
  | 1, _ =>
    match j, hj with
    | 0, _ => rfl
    | 1, _ => rfl
    | 2, _ => rfl
    | 3, _ => rfl
    | 4, _ => rfl
    | 5, _ => rfl
    | 6, _ => rfl
    | 7, _ => rfl
    | 8, _ => rfl
    | 9, _ => rfl
    | 10, _ => rfl
    | 11, _ => rfl
    | 12, _ => rfl
    | 13, _ => rfl
    | 14, _ => rfl
    | 15, _ => rfl
    | z + 16, h => exact absurd h (by show ¬ z + 16 < 16; omega)
  | 2, _ =>
    match j, hj with
    | 0, _ => rfl
    | 1, _ => rfl
    | 2, _ => rfl
    | 3, _ => rfl
    | 4, _ => rfl
    | 5, _ => rfl
    | 6, _ => rfl
    | 7, _ => rfl
    | 8, _ => rfl
    | 9, _ => rfl
    | 10, _ => rfl
    | 11, _ => rfl
    | 12, _ => rfl
    | 13, _ => rfl
    | 14, _ => rfl
    | 15, _ => rfl
    | 16, _ => rfl
    | 17, _ => rfl
    | z + 18, h => exact absurd h (by show ¬ z + 18 < 18; omega)
  | 3, _ =>
    match j, hj with
    | 0, _ => rfl
    | 1, _ => rfl
    | 2, _ => rfl
    | 3, _ => rfl
    | 4, _ => rfl
    | 5, _ => rfl
    | z + 6, h => exact absurd h (by show ¬ z + 6 < 6; omega)
  | 4, _ =>
    match j, hj with
    | 0, _ => rfl
    | 1, _ => rfl
    | 2, _ => rfl
    | 3, _ => rfl
    | 4, _ => rfl
    | z + 5, h => exact absurd h (by show ¬ z + 5 < 5; omega)
  | 5, _ =>
    match j, hj with
    | 0, _ => rfl
    | 1, _ => rfl
    | 2, _ => rfl
    | 3, _ => rfl
    | z + 4, h => exact absurd h (by show ¬ z + 4 < 4; omega)
  | z + 6, h => exact absurd h (by omega)
section MJ4
variable {M : mj_M} {d mc ms : Nat} {Q : mj_Q} {pc q : Nat} {lv st : List Value} {n : Nat} {K : Nat → mj_K} {f : Nat → Nat → Int32} {g : Nat → Nat → Option Nat}
theorem mj_new {idx ci : Nat} (hd : decode M.2.1 pc = .ok (.new idx, 3)) (hci : ci < 6) (hcl : Cond.classLink M.2.2.2.2.1 idx (mT_C ci) ∈ mj_TW) (hin : Cond.instantiable (mT_C ci) (mT_N ci) ∈ mj_TW ∧ Cond.initialized (mT_C ci) ∈ mj_TW) (hq : pc + 3 = q)
    (k : mj_W M d mc ms Q q lv (.ref n :: st) (n + 1, mj_row K n (2, ci, 0), mj_row f n (fun _ => 0), mj_row g n (fun _ => none))) : mj_W M d (1 + mc) (mT_N ci + ms) Q pc lv st (n, K, f, g) := by
  subst hq
  intro p l e R s m args below meth c D b B0 MC MS as0 QQ X E as H locs ls cells slots S
  obtain ⟨s1, s2, s3, s4, s5, s6, s7, s8⟩ := S
  obtain ⟨ws, tys, h1, h2, h3, h4, h5, h6, h7, h8, h9⟩ := id s1
  dsimp only at h2 h3 h4 h8 h9 s5 s6
  obtain ⟨x1, x2, x3, x4, x5, x6, x7, x8, x9, x10, x11, x12, x13, x14, x15⟩ := id X
  have hlen : as.length = n := by rw [h1, List.length_cons, List.length_map, h2]
  refine va_new (C := mT_C ci) (T := mT_T ci) (N := mT_N ci) (ci := ci) (A := fun q => B0 ≤ q) (fs := mj_fs as ci (fun _ => 0) (fun _ => none)) x1 x2 x5 (mT_in ci hci) (mT_ty ci) (mT_tyok ci hci) x4 (x5 _ hcl) (x5 _ hin.1) (x5 _ hin.2) h5 h6 h7 s2 (fun q h => Nat.le_trans x15 h) (mT_at ci hci) (fun j hj => mj_dflt ci hci as j hj) (by omega) (by omega) hd (fun q H1 hP hD hS => ?_)
  have e1 : st.map (mj_t as) = st.map (mj_t (as ++ [q])) := (mj_ts_app (by rw [hlen]; exact s6)).symm
  have e2 : Value.ref q = mj_t (as ++ [q]) (.ref n) := by
    show Value.ref q = Value.ref _
    rw [List.getD_eq_getElem?_getD, ← hlen, List.getElem?_concat_length]
    rfl
  rw [e1, e2]
  refine k p l e R s m args below meth c D b B0 MC MS as0 QQ X E (as ++ [q]) H1 locs ls (cells + 1) (slots + mT_N ci) ⟨?_, hS, by obtain ⟨ex, rfl⟩ := s3; exact ⟨ex ++ [q], by rw [List.append_assoc]⟩, by rw [mj_al_app lv 0 (by rw [hlen]; exact s5)]; exact s4, mj_oks_mono (Nat.le_succ n) s5, ⟨Nat.lt_succ_self n, mj_oks_mono (Nat.le_succ n) s6⟩, by omega, by omega⟩
  refine mj_Hp_new (t2 := []) h1 h2 h3 h4 (by rw [List.append_nil]; exact h5) h8 hP hD (mj_scr h9 s2 hS x14 x15) (Or.inr (Or.inr ⟨rfl, hci, ?_⟩))
  show Sum.inr (ci, _) = Sum.inr (ci, mj_fs (as ++ [q]) ci (fun _ => 0) (fun _ => none))
  rfl
theorem mj_newa {x : Int32} {L : Nat} (hd : decode M.2.1 pc = .ok (.newarray .int, 2)) (hw : Cond.arrayClass .int ∈ mj_TW) (hx : ¬ x < 0) (hL : x.toNatClampNeg = L) (hsz : L ≤ 1000) (hq : pc + 2 = q)
    (k : mj_W M d mc ms Q q lv (.ref n :: st) (n + 1, mj_row K n (0, L, 0), mj_row f n (fun _ => 0), mj_row g n (fun _ => none))) : mj_W M d (1 + mc) (L + ms) Q pc lv (.int x :: st) (n, K, f, g) := by
  subst hq
  intro p l e R s m args below meth c D b B0 MC MS as0 QQ X E as H locs ls cells slots S
  obtain ⟨s1, s2, s3, s4, s5, s6, s7, s8⟩ := S
  obtain ⟨ws, tys, h1, h2, h3, h4, h5, h6, h7, h8, h9⟩ := id s1
  dsimp only at h2 h3 h4 h8 h9 s5 s6
  obtain ⟨x1, x2, x3, x4, x5, x6, x7, x8, x9, x10, x11, x12, x13, x14, x15⟩ := id X
  have s6 := s6.2
  have hlen : as.length = n := by rw [h1, List.length_cons, List.length_map, h2]
  refine va_newa (atype := .int) (ty := .int) (A := fun q => B0 ≤ q) (a0 := (L, .inl (fun _ => 0))) x1 x2 (x5 _ hw) rfl h5 h6 h7 s2 (fun q h => Nat.le_trans x15 h) (fun cA => rfl) hx hL (by show L * 4 ≤ 536870912; omega) (by omega) (by omega) hd (fun q cA H1 hK hP hD hS => ?_)
  have e1 : st.map (mj_t as) = st.map (mj_t (as ++ [q])) := (mj_ts_app (by rw [hlen]; exact s6)).symm
  have e2 : Value.ref q = mj_t (as ++ [q]) (.ref n) := by
    show Value.ref q = Value.ref _
    rw [List.getD_eq_getElem?_getD, ← hlen, List.getElem?_concat_length]
    rfl
  rw [e1, e2]
  refine k p l e R s m args below meth c D b B0 MC MS as0 QQ X E (as ++ [q]) H1 locs ls (cells + 1) (slots + L) ⟨?_, hS, by obtain ⟨ex, rfl⟩ := s3; exact ⟨ex ++ [q], by rw [List.append_assoc]⟩, by rw [mj_al_app lv 0 (by rw [hlen]; exact s5)]; exact s4, mj_oks_mono (Nat.le_succ n) s5, ⟨Nat.lt_succ_self n, mj_oks_mono (Nat.le_succ n) s6⟩, by omega, by omega⟩
  exact mj_Hp_new (t2 := [(cA, .int)]) h1 h2 h3 h4 hK h8 hP hD (mj_scr h9 s2 hS x14 x15) (Or.inl ⟨rfl, cA, tys.length, List.getElem?_concat_length, rfl⟩)
theorem mj_newq {x : Int32} {L idx ci : Nat} (hd : decode M.2.1 pc = .ok (.anewarray idx, 3)) (hcl : Cond.classLink M.2.2.2.2.1 idx (mT_C ci) ∈ mj_TW) (hao : ∀ s, mj_XW s → va_AO (mT_C ci) s) (hx : ¬ x < 0) (hL : x.toNatClampNeg = L) (hsz : L ≤ 1000) (hq : pc + 3 = q)
    (k : mj_W M d mc ms Q q lv (.ref n :: st) (n + 1, mj_row K n (1, L, ci), mj_row f n (fun _ => 0), mj_row g n (fun _ => none))) : mj_W M d (1 + mc) (L + ms) Q pc lv (.int x :: st) (n, K, f, g) := by
  subst hq
  intro p l e R s m args below meth c D b B0 MC MS as0 QQ X E as H locs ls cells slots S
  obtain ⟨s1, s2, s3, s4, s5, s6, s7, s8⟩ := S
  obtain ⟨ws, tys, h1, h2, h3, h4, h5, h6, h7, h8, h9⟩ := id s1
  dsimp only at h2 h3 h4 h8 h9 s5 s6
  obtain ⟨x1, x2, x3, x4, x5, x6, x7, x8, x9, x10, x11, x12, x13, x14, x15⟩ := id X
  have s6 := s6.2
  have hlen : as.length = n := by rw [h1, List.length_cons, List.length_map, h2]
  refine va_newq (C := mT_C ci) (A := fun q => B0 ≤ q) x1 x2 x4 (x5 _ hcl) (hao s x6) h5 h6 h7 s2 (fun q h => Nat.le_trans x15 h) hx hL (by omega) (by omega) (by omega) hd (fun q cA H1 hK hP hD hS => ?_)
  have e1 : st.map (mj_t as) = st.map (mj_t (as ++ [q])) := (mj_ts_app (by rw [hlen]; exact s6)).symm
  have e2 : Value.ref q = mj_t (as ++ [q]) (.ref n) := by
    show Value.ref q = Value.ref _
    rw [List.getD_eq_getElem?_getD, ← hlen, List.getElem?_concat_length]
    rfl
  rw [e1, e2]
  refine k p l e R s m args below meth c D b B0 MC MS as0 QQ X E (as ++ [q]) H1 locs ls (cells + 1) (slots + L) ⟨?_, hS, by obtain ⟨ex, rfl⟩ := s3; exact ⟨ex ++ [q], by rw [List.append_assoc]⟩, by rw [mj_al_app lv 0 (by rw [hlen]; exact s5)]; exact s4, mj_oks_mono (Nat.le_succ n) s5, ⟨Nat.lt_succ_self n, mj_oks_mono (Nat.le_succ n) s6⟩, by omega, by omega⟩
  exact mj_Hp_new (t2 := [(cA, .object (mT_C ci))]) h1 h2 h3 h4 hK h8 hP hD (mj_scr h9 s2 hS x14 x15) (Or.inr (Or.inl ⟨rfl, cA, tys.length, List.getElem?_concat_length, rfl⟩))
theorem mj_objInit {h : mj_H} {idx a : Nat} (hd : decode M.2.1 pc = .ok (.invokespecial idx, 3)) (hln : Cond.methodLink M.2.2.2.2.1 idx Lib.objectInit ∈ mj_TW) (hcat : (st.map fun v => v.category).sum ≤ 8) (hq : pc + 3 = q)
    (k : mj_W M (d + 1) mc ms Q q lv st h) : mj_W M (d + 1) mc ms Q pc lv (.ref a :: st) h := by
  subst hq
  intro p l e R s m args below meth c D b B0 MC MS as0 QQ X E as H locs ls cells slots S
  obtain ⟨s1, s2, s3, s4, s5, s6, s7, s8⟩ := S
  obtain ⟨x1, x2, x3, x4, x5, x6, x7, x8, x9, x10, x11, x12, x13, x14, x15⟩ := id X
  exact W.objInit (g := F0 m pc ls ((.ref a :: st).map (mj_t as))) x1 x2 x4 (x5 _ hln) (x5 _ (mj_in 23 (by decide +kernel) rfl)) (x5 _ (mj_in 24 (by decide +kernel) rfl)) rfl (s4.1.trans x3.symm) rfl hd (by omega) (by show 2 * 0 + _ + 12 ≤ _; rw [mj_cats]; omega)
    (k p l e R s m args below meth c D b B0 MC MS as0 QQ X E as H locs ls cells slots ⟨s1, s2, s3, s4, s5, s6.2, s7, s8⟩)
theorem mj_copyi {idx a0 a1 n0 n1 : Nat} {sp dp cn : Int32} (hd : decode M.2.1 pc = .ok (.invokestatic idx, 3)) (hln : Cond.methodLink M.2.2.2.2.1 idx arraycopyName ∈ mj_TW) (hK0 : K a0 = (0, n0, 0)) (hK1 : K a1 = (0, n1, 0)) (h1 : ¬ sp < 0) (h2 : ¬ dp < 0) (h3 : ¬ cn < 0) (h4 : sp.toNatClampNeg + cn.toNatClampNeg ≤ n0) (h5 : dp.toNatClampNeg + cn.toNatClampNeg ≤ n1) (hcat : (st.map fun v => v.category).sum ≤ 8) (hq : pc + 3 = q)
    (k : mj_W M (d + 1) mc ms Q q lv st (n, K, mj_row f a1 (va_cpy (f a0) (f a1) sp.toNatClampNeg dp.toNatClampNeg cn.toNatClampNeg), g)) : mj_W M (d + 1) mc ms Q pc lv (.int cn :: .int dp :: .ref a1 :: .int sp :: .ref a0 :: st) (n, K, f, g) := by
  subst hq
  intro p l e R s m args below meth c D b B0 MC MS as0 QQ X E as H locs ls cells slots S
  obtain ⟨s1, s2, s3, s4, s5, s6, s7, s8⟩ := S
  obtain ⟨ws, tys, g1, g2, g3, g4, g5, g6, g7, g8, g9⟩ := id s1
  dsimp only at g2 g3 g4 g8 g9 s5 s6
  obtain ⟨x1, x2, x3, x4, x5, x6, x7, x8, x9, x10, x11, x12, x13, x14, x15⟩ := id X
  obtain ⟨-, -, t1, -, t0, s6⟩ := s6
  obtain ⟨j0, e0, rfl, hj0, hc0⟩ := mj_place g1 g2 g4 g8 t0 (by rw [hK0]; simp)
  obtain ⟨j1, e1, rfl, hj1, hc1⟩ := mj_place g1 g2 g4 g8 t1 (by rw [hK1]; simp)
  rcases hc0 with ⟨-, cA0, u0, hu0, he0⟩ | ⟨hc, -⟩ | ⟨hc, -⟩
  · rcases hc1 with ⟨-, cA1, u1, hu1, he1⟩ | ⟨hc, -⟩ | ⟨hc, -⟩
    · rw [hK0] at he0
      rw [hK1] at he1
      dsimp only at he0 he1
      subst he0
      subst he1
      refine va_copyi (a := as.getD (j1 + 1) 0) (a0 := as.getD (j0 + 1) 0) (ty := .int) (sp := sp) (dp := dp) (n := cn) x1 x2 (x3.trans s4.1.symm) x4 (x5 _ hln) (x5 _ (mj_in 622 (by decide +kernel) rfl)) (x5 _ (mj_in 621 (by decide +kernel) rfl)) (x5 _ (mj_in 16 (by decide +kernel) rfl)) g5 g6 g7 s2 j0 j1 u0 u1 hj0 hj1 hu0 hu1 rfl h1 h2 h3 h4 h5 (fun _ _ => rfl) (by omega) (by rw [mj_cats, show nativeFrameWords "java/lang/System" "arraycopy" 5 = 7 from by decide +kernel]; omega) hd (fun H1 locs1 hP hD hS => ?_)
      refine k p l e R s m args below meth c D b B0 MC MS as0 QQ X E as H1 locs1 ls cells slots ⟨?_, hS, s3, s4, s5, s6, s7, s8⟩
      refine mj_Hp_set g1 g2 g3 g4 g5 g8 hj1 hP hD (mj_scr g9 s2 hS x14 x15) (Or.inl ⟨by rw [hK1], cA1, u1, hu1, ?_⟩) (fun i hi => by simp [mj_row, hi]) (fun i hi => rfl)
      rw [hK1]
      simp [mj_row]
    · rw [hK1] at hc; cases hc
    · rw [hK1] at hc; cases hc
  · rw [hK0] at hc; cases hc
  · rw [hK0] at hc; cases hc
theorem mj_d2l {h : mj_H} {idx : Nat} {x : UInt64} (hd : decode M.2.1 pc = .ok (.invokestatic idx, 3)) (hln : Cond.methodLink M.2.2.2.2.1 idx ⟨"java/lang/Double", "doubleToRawLongBits", "(D)J"⟩ ∈ mj_TW) (hcat : (st.map fun v => v.category).sum ≤ 8) (hq : pc + 3 = q)
    (k : mj_W M (d + 1) mc ms Q q lv (.long x.toInt64 :: st) h) : mj_W M (d + 1) mc ms Q pc lv (.double x :: st) h := by
  subst hq
  intro p l e R s m args below meth c D b B0 MC MS as0 QQ X E as H locs ls cells slots S
  obtain ⟨s1, s2, s3, s4, s5, s6, s7, s8⟩ := S
  obtain ⟨x1, x2, x3, x4, x5, x6, x7, x8, x9, x10, x11, x12, x13, x14, x15⟩ := id X
  exact vn_d2l x1 x2 (x3.trans s4.1.symm) x4 (x5 _ hln) (x5 _ (mj_in 765 (by decide +kernel) rfl)) (x5 _ (mj_in 764 (by decide +kernel) rfl)) (x5 _ (mj_in 15 (by decide +kernel) rfl)) (by omega) (by rw [mj_cats]; omega) hd
    (k p l e R s m args below meth c D b B0 MC MS as0 QQ X E as H locs ls cells slots ⟨s1, s2, s3, s4, s5, ⟨trivial, s6.2⟩, s7, s8⟩)
theorem mj_l2d {h : mj_H} {idx : Nat} {x : Int64} (hd : decode M.2.1 pc = .ok (.invokestatic idx, 3)) (hln : Cond.methodLink M.2.2.2.2.1 idx ⟨"java/lang/Double", "longBitsToDouble", "(J)D"⟩ ∈ mj_TW) (hv : vn_snl2d x = false) (hcat : (st.map fun v => v.category).sum ≤ 8) (hq : pc + 3 = q)
    (k : mj_W M (d + 1) mc ms Q q lv (.double x.toUInt64 :: st) h) : mj_W M (d + 1) mc ms Q pc lv (.long x :: st) h := by
  subst hq
  intro p l e R s m args below meth c D b B0 MC MS as0 QQ X E as H locs ls cells slots S
  obtain ⟨s1, s2, s3, s4, s5, s6, s7, s8⟩ := S
  obtain ⟨x1, x2, x3, x4, x5, x6, x7, x8, x9, x10, x11, x12, x13, x14, x15⟩ := id X
  exact vn_l2d x1 x2 (x3.trans s4.1.symm) x4 (x5 _ hln) (x5 _ (mj_in 769 (by decide +kernel) rfl)) (x5 _ (mj_in 768 (by decide +kernel) rfl)) (x5 _ (mj_in 15 (by decide +kernel) rfl)) hv (by omega) (by rw [mj_cats]; omega) hd
    (k p l e R s m args below meth c D b B0 MC MS as0 QQ X E as H locs ls cells slots ⟨s1, s2, s3, s4, s5, ⟨trivial, s6.2⟩, s7, s8⟩)
theorem mj_ldc {h : mj_H} {idx : Nat} {x : Int32} (hd : decode M.2.1 pc = .ok (.ldc idx, 2)) (hw : Cond.constant M.2.2.2.2.1 idx x ∈ mj_TW) (hq : pc + 2 = q) (k : mj_W M d mc ms Q q lv (.int x :: st) h) : mj_W M d mc ms Q pc lv st h := by
  subst hq
  intro p l e R s m args below meth c D b B0 MC MS as0 QQ X E as H locs ls cells slots S
  obtain ⟨s1, s2, s3, s4, s5, s6, s7, s8⟩ := S
  exact lv_ldc X.1 X.2.1 X.2.2.2.1 (X.2.2.2.2.1 _ hw) hd (k p l e R s m args below meth c D b B0 MC MS as0 QQ X E as H locs ls cells slots ⟨s1, s2, s3, s4, s5, ⟨trivial, s6⟩, s7, s8⟩)
theorem mj_ldcw {h : mj_H} {idx : Nat} {x : Int32} (hd : decode M.2.1 pc = .ok (.ldc_w idx, 3)) (hw : Cond.constant M.2.2.2.2.1 idx x ∈ mj_TW) (hq : pc + 3 = q) (k : mj_W M d mc ms Q q lv (.int x :: st) h) : mj_W M d mc ms Q pc lv st h := by
  subst hq
  intro p l e R s m args below meth c D b B0 MC MS as0 QQ X E as H locs ls cells slots S
  obtain ⟨s1, s2, s3, s4, s5, s6, s7, s8⟩ := S
  exact lv_ldcw X.1 X.2.1 X.2.2.2.1 (X.2.2.2.2.1 _ hw) hd (k p l e R s m args below meth c D b B0 MC MS as0 QQ X E as H locs ls cells slots ⟨s1, s2, s3, s4, s5, ⟨trivial, s6⟩, s7, s8⟩)
theorem mj_ldc2 {h : mj_H} {idx : Nat} {x : Int64} (hd : decode M.2.1 pc = .ok (.ldc2_w idx, 3)) (hw : Cond.constantLong M.2.2.2.2.1 idx x ∈ mj_TW) (hq : pc + 3 = q) (k : mj_W M d mc ms Q q lv (.long x :: st) h) : mj_W M d mc ms Q pc lv st h := by
  subst hq
  intro p l e R s m args below meth c D b B0 MC MS as0 QQ X E as H locs ls cells slots S
  obtain ⟨s1, s2, s3, s4, s5, s6, s7, s8⟩ := S
  exact lv_ldc2 X.1 X.2.1 X.2.2.2.1 (X.2.2.2.2.1 _ hw) hd (k p l e R s m args below meth c D b B0 MC MS as0 QQ X E as H locs ls cells slots ⟨s1, s2, s3, s4, s5, ⟨trivial, s6⟩, s7, s8⟩)
theorem mj_ldc2d {h : mj_H} {idx : Nat} {x : UInt64} (hd : decode M.2.1 pc = .ok (.ldc2_w idx, 3)) (hw : Cond.constantDouble M.2.2.2.2.1 idx x ∈ mj_TW) (hq : pc + 3 = q) (k : mj_W M d mc ms Q q lv (.double x :: st) h) : mj_W M d mc ms Q pc lv st h := by
  subst hq
  intro p l e R s m args below meth c D b B0 MC MS as0 QQ X E as H locs ls cells slots S
  obtain ⟨s1, s2, s3, s4, s5, s6, s7, s8⟩ := S
  exact lv_ldc2d X.1 X.2.1 X.2.2.2.1 (X.2.2.2.2.1 _ hw) hd (k p l e R s m args below meth c D b B0 MC MS as0 QQ X E as H locs ls cells slots ⟨s1, s2, s3, s4, s5, ⟨trivial, s6⟩, s7, s8⟩)
end MJ4
