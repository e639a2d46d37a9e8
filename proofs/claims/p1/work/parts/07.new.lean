/-! NEW CELLS, and the JDK's own: Object(), arraycopy, throws, lists -/
theorem mj_cell_ext {tys t2 : List (ClassId × FieldType)} {e0 : Nat} {as ex : List Nat} {K : mj_K} {f : Nat → Int32} {g : Nat → Option Nat} {e : va_E} (hg : ∀ j c, g j = some c → c < as.length) (h : mj_cell tys e0 as K f g e) : mj_cell (tys ++ t2) e0 (as ++ ex) K f g e := by
  have hr : ∀ j, ((g j).map fun b => (as ++ ex).getD b 0) = ((g j).map fun b => as.getD b 0) := by
    intro j
    cases hj : g j with
    | none => rfl
    | some c =>
      have hc := hg j c hj
      show some ((as ++ ex).getD c 0) = some (as.getD c 0)
      rw [List.getD_eq_getElem?_getD, List.getD_eq_getElem?_getD, List.getElem?_append_left hc]
  have ht : ∀ (t0 : Nat) (x : ClassId × FieldType), tys[t0]? = some x → (tys ++ t2)[t0]? = some x := fun t0 x hx => by
    rw [List.getElem?_append_left (List.getElem?_eq_some_iff.mp hx).1]; exact hx
  rcases h with ⟨h1, cA, t0, h2, h3⟩ | ⟨h1, cA, t0, h2, h3⟩ | ⟨h1, h2, h3⟩ | ⟨h1, cA, t0, F, h2, h3, h4⟩ | ⟨h1, cA, t0, h2, h3⟩
  · exact Or.inl ⟨h1, cA, t0, ht _ _ h2, h3⟩
  · refine Or.inr (Or.inl ⟨h1, cA, t0, ht _ _ h2, ?_⟩)
    rw [h3]
    congr 7
    funext j
    exact (hr j).symm
  · refine Or.inr (Or.inr (Or.inl ⟨h1, h2, ?_⟩))
    rw [h3]
    congr 2
    unfold mj_fs
    apply List.map_congr_left
    intro k _
    unfold mj_fv
    rw [hr k]
  · exact Or.inr (Or.inr (Or.inr (Or.inl ⟨h1, cA, t0, F, ht _ _ h2, h3, h4⟩)))
  · refine Or.inr (Or.inr (Or.inr (Or.inr ⟨h1, cA, t0, ht _ _ h2, ?_⟩)))
    rw [h3]
    congr 7
    funext j
    exact (hr j).symm
theorem mj_Hp_new {D : va_G} {b e0 n a : Nat} {as : List Nat} {K : Nat → mj_K} {f : Nat → Nat → Int32} {g : Nat → Nat → Option Nat} {A : Nat → Prop} {s : State} {H1 : Heap} {ws : va_W} {tys t2 : List (ClassId × FieldType)} {e : va_E} {kk : mj_K}
    (h1 : as = b :: e0 :: ws.map (·.1)) (h2 : n = ws.length + 2) (h3 : ∀ k j c, g k j = some c → c < n) (h4 : ∀ k q, ws[k]? = some q → mj_cell tys e0 as (K (k + 2)) (f (k + 2)) (g (k + 2)) q.2) (h5 : va_K D vwCl (tys ++ t2) s) (h8 : (K 0).1 = 3 ∧ (K 1).1 = 7)
    (hP : va_P D vwCl (ws ++ [(a, e)]) H1) (hD : va_D A (ws ++ [(a, e)])) (hX : va_X b (K 0).2.1 (f 0) s H1) (hc : mj_cell (tys ++ t2) e0 (as ++ [a]) kk (fun _ => 0) (fun _ => none) e) :
    mj_Hp D b e0 (as ++ [a]) (n + 1, mj_row K n kk, mj_row f n (fun _ => 0), mj_row g n (fun _ => none)) A s H1 := by
  have hlen : as.length = n := by rw [h1, List.length_cons, List.length_cons, List.length_map, h2]
  refine ⟨ws ++ [(a, e)], tys ++ t2, by rw [h1, List.map_append]; rfl, by show n + 1 = _; rw [List.length_append, h2]; rfl, ?_, ?_, h5, hP, hD, ?_, ?_⟩
  · intro k j c hc
    show c < n + 1
    have hc : mj_row g n (fun _ => none) k j = some c := hc
    unfold mj_row at hc
    split at hc
    · cases hc
    · exact Nat.lt_succ_of_lt (h3 _ _ _ hc)
  · intro k q hq
    show mj_cell (tys ++ t2) e0 (as ++ [a]) (mj_row K n kk (k + 2)) (mj_row f n (fun _ => 0) (k + 2)) (mj_row g n (fun _ => none) (k + 2)) q.2
    by_cases hk : k < ws.length
    · rw [List.getElem?_append_left hk] at hq
      unfold mj_row
      rw [if_neg (by omega), if_neg (by omega), if_neg (by omega)]
      exact mj_cell_ext (fun j c hj => by rw [hlen]; exact h3 _ _ _ hj) (h4 k q hq)
    · have hk2 : k = ws.length := by
        have := (List.getElem?_eq_some_iff.mp hq).1
        rw [List.length_append] at this
        simp at this
        omega
      subst hk2
      rw [List.getElem?_concat_length] at hq
      cases hq
      unfold mj_row
      rw [if_pos (by omega), if_pos (by omega), if_pos (by omega)]
      exact hc
  · show (mj_row K n kk 0).1 = 3 ∧ (mj_row K n kk 1).1 = 7
    unfold mj_row
    rw [if_neg (by omega), if_neg (by omega)]
    exact h8
  · show va_X b (mj_row K n kk 0).2.1 (mj_row f n (fun _ => 0) 0) s H1
    unfold mj_row
    rw [if_neg (by omega), if_neg (by omega)]
    exact hX
theorem mj_dflt : ∀ ci, ci < 10 → ∀ (as : List Nat) (j : Nat), j < mT_N ci → defaultValue (mT_ty ci j) = vp_V (mj_fs as ci (fun _ => 0) (fun _ => none)) j := by
  intro ci hci as j hj
  unfold vp_V
  rw [List.getD_eq_getElem?_getD, mj_fs_get _ _ _ _ hj]
  match ci, hci with
  | 0, _ =>
    match j, hj with
    | 0, _ => rfl
    | 1, _ => rfl
    | 2, _ => rfl
    | 3, _ => rfl
    | z + 4, h => exact absurd h (by show ¬ z + 4 < 4; omega)
  | 1, _ =>
    match j, hj with
    | 0, _ => rfl
    | 1, _ => rfl
    | 2, _ => rfl
    | z + 3, h => exact absurd h (by show ¬ z + 3 < 3; omega)
  | 2, _ =>
    match j, hj with
    | 0, _ => rfl
    | 1, _ => rfl
    | 2, _ => rfl
    | 3, _ => rfl
    | 4, _ => rfl
    | z + 5, h => exact absurd h (by show ¬ z + 5 < 5; omega)
  | 3, _ =>
    match j, hj with
    | 0, _ => rfl
    | 1, _ => rfl
    | 2, _ => rfl
    | 3, _ => rfl
    | 4, _ => rfl
    | 5, _ => rfl
    | 6, _ => rfl
    | 7, _ => rfl
    | 8, _ => rfl
    | 9, _ => rfl
    | 10, _ => rfl
    | 11, _ => rfl
    | 12, _ => rfl
    | 13, _ => rfl
    | 14, _ => rfl
    | 15, _ => rfl
    | z + 16, h => exact absurd h (by show ¬ z + 16 < 16; omega)
  | 4, _ =>
    match j, hj with
    | 0, _ => rfl
    | 1, _ => rfl
    | 2, _ => rfl
    | 3, _ => rfl
    | 4, _ => rfl
    | 5, _ => rfl
    | 6, _ => rfl
    | 7, _ => rfl
    | 8, _ => rfl
    | 9, _ => rfl
    | 10, _ => rfl
    | 11, _ => rfl
    | 12, _ => rfl
    | 13, _ => rfl
    | 14, _ => rfl
    | 15, _ => rfl
    | 16, _ => rfl
    | 17, _ => rfl
    | z + 18, h => exact absurd h (by show ¬ z + 18 < 18; omega)
  | 5, _ =>
    match j, hj with
    | 0, _ => rfl
    | 1, _ => rfl
    | 2, _ => rfl
    | 3, _ => rfl
    | 4, _ => rfl
    | 5, _ => rfl
    | z + 6, h => exact absurd h (by show ¬ z + 6 < 6; omega)
  | 6, _ =>
    match j, hj with
    | 0, _ => rfl
    | 1, _ => rfl
    | 2, _ => rfl
    | 3, _ => rfl
    | 4, _ => rfl
    | z + 5, h => exact absurd h (by show ¬ z + 5 < 5; omega)
  | 7, _ =>
    match j, hj with
    | 0, _ => rfl
    | 1, _ => rfl
    | 2, _ => rfl
    | 3, _ => rfl
    | z + 4, h => exact absurd h (by show ¬ z + 4 < 4; omega)
  | 8, _ =>
    match j, hj with
    | 0, _ => rfl
    | 1, _ => rfl
    | 2, _ => rfl
    | 3, _ => rfl
    | 4, _ => rfl
    | 5, _ => rfl
    | 6, _ => rfl
    | 7, _ => rfl
    | 8, _ => rfl
    | 9, _ => rfl
    | 10, _ => rfl
    | 11, _ => rfl
    | z + 12, h => exact absurd h (by show ¬ z + 12 < 12; omega)
  | 9, _ =>
    match j, hj with
    | 0, _ => rfl
    | 1, _ => rfl
    | 2, _ => rfl
    | 3, _ => rfl
    | 4, _ => rfl
    | 5, _ => rfl
    | 6, _ => exact (by decide : Value.long 0 = Value.long (mj_lg 0 0))
    | z + 7, h => exact absurd h (by show ¬ z + 7 < 7; omega)
  | z + 10, h => exact absurd h (by omega)
theorem mj_P_old {D : va_G} {cl : List vw_C} {ws : va_W} {H H1 : Heap} (h : va_P D cl ws H) (ho : ∀ q : Nat, q < H.size → H1[q]? = H[q]?) : va_P D cl ws H1 := by
  refine va_P.kept h (fun k q hk => ho _ ?_)
  have h9 := h k q hk
  unfold va_at at h9
  split at h9
  · exact (Array.getElem?_eq_some_iff.mp h9).1
  · obtain ⟨r, -, h8⟩ := h9
    obtain ⟨cell, h7, -⟩ := h8
    exact (Array.getElem?_eq_some_iff.mp h7).1
section MJ4
variable {M : mj_M} {d mc ms idx : Nat} {Q : mj_Q} {pc q : Nat} {lv st : List Value} {n : Nat} {K : Nat → mj_K} {f : Nat → Nat → Int32} {g : Nat → Nat → Option Nat}
theorem mj_new {idx ci : Nat} (hd : decode M.2.1 pc = .ok (.new idx, 3)) (hci : ci < 10) (hcl : Cond.classLink M.2.2.2.2.1 idx (mT_C ci) ∈ mj_TW) (hin : Cond.instantiable (mT_C ci) (mT_N ci) ∈ mj_TW ∧ Cond.initialized (mT_C ci) ∈ mj_TW) (hq : pc + 3 = q)
    (k : mj_W M d mc ms Q q lv (.ref n :: st) (n + 1, mj_row K n (2, ci, 0), mj_row f n (fun _ => 0), mj_row g n (fun _ => none))) : mj_W M d (1 + mc) (mT_N ci + ms) Q pc lv st (n, K, f, g) := by
  subst hq
  intro p l e R s m args below meth c D b e0 B0 MC MS as0 QQ X E as H locs ls cells slots S
  obtain ⟨s1, s2, s3, s4, s5, s6, s7, s8⟩ := S
  obtain ⟨ws, tys, h1, h2, h3, h4, h5, h6, h7, h8, h9⟩ := id s1
  dsimp only at h2 h3 h4 h8 h9 s5 s6
  obtain ⟨x1, x2, x3, x4, x5, x6, x7, x8, x9, x10, x11, x12, x13, x14, x15, x16, x17, x18⟩ := id X
  have hlen : as.length = n := by rw [h1, List.length_cons, List.length_cons, List.length_map, h2]
  refine va_new (C := mT_C ci) (T := mT_T ci) (N := mT_N ci) (ci := ci) (A := fun q => B0 ≤ q) (fs := mj_fs as ci (fun _ => 0) (fun _ => none)) x1 x2 x5 (mT_in ci hci) (mT_ty ci) (mT_tyok ci hci) x4 (x5 _ hcl) (x5 _ hin.1) (x5 _ hin.2) h5 h6 h7 s2 (fun q h => Nat.le_trans x15 h) (mT_at ci hci) (fun j hj => mj_dflt ci hci as j hj) (by omega) (by omega) hd (fun q H1 hP hD hS => ?_)
  have e1 : st.map (mj_t as) = st.map (mj_t (as ++ [q])) := (mj_ts_app (by rw [hlen]; exact s6)).symm
  have e2 : Value.ref q = mj_t (as ++ [q]) (.ref n) := by
    show Value.ref q = Value.ref _
    rw [List.getD_eq_getElem?_getD, ← hlen, List.getElem?_concat_length]
    rfl
  rw [e1, e2]
  refine k p l e R s m args below meth c D b e0 B0 MC MS as0 QQ X E (as ++ [q]) H1 locs ls (cells + 1) (slots + mT_N ci) ⟨?_, hS, by obtain ⟨ex, rfl⟩ := s3; exact ⟨ex ++ [q], by rw [List.append_assoc]⟩, by rw [mj_al_app lv 0 (by rw [hlen]; exact s5)]; exact s4, mj_oks_mono (Nat.le_succ n) s5, ⟨Nat.lt_succ_self n, mj_oks_mono (Nat.le_succ n) s6⟩, by omega, by omega⟩
  refine mj_Hp_new (t2 := []) h1 h2 h3 h4 (by rw [List.append_nil]; exact h5) h8 hP hD (mj_scr h9 s2 hS x14 x15) (mj_mk2 (as := as ++ [q]) hci)
theorem mj_newa {x : Int32} {L : Nat} (hd : decode M.2.1 pc = .ok (.newarray .int, 2)) (hw : Cond.arrayClass .int ∈ mj_TW) (hx : ¬ x < 0) (hL : x.toNatClampNeg = L) (hsz : L ≤ 1000) (hq : pc + 2 = q)
    (k : mj_W M d mc ms Q q lv (.ref n :: st) (n + 1, mj_row K n (0, L, 0), mj_row f n (fun _ => 0), mj_row g n (fun _ => none))) : mj_W M d (1 + mc) (L + ms) Q pc lv (.int x :: st) (n, K, f, g) := by
  subst hq
  intro p l e R s m args below meth c D b e0 B0 MC MS as0 QQ X E as H locs ls cells slots S
  obtain ⟨s1, s2, s3, s4, s5, s6, s7, s8⟩ := S
  obtain ⟨ws, tys, h1, h2, h3, h4, h5, h6, h7, h8, h9⟩ := id s1
  dsimp only at h2 h3 h4 h8 h9 s5 s6
  obtain ⟨x1, x2, x3, x4, x5, x6, x7, x8, x9, x10, x11, x12, x13, x14, x15, x16, x17, x18⟩ := id X
  have s6 := s6.2
  have hlen : as.length = n := by rw [h1, List.length_cons, List.length_cons, List.length_map, h2]
  refine va_newa (atype := .int) (ty := .int) (A := fun q => B0 ≤ q) (a0 := (L, .inl (fun _ => 0))) x1 x2 (x5 _ hw) rfl h5 h6 h7 s2 (fun q h => Nat.le_trans x15 h) (fun cA => rfl) hx hL (by show L * 4 ≤ 536870912; omega) (by omega) (by omega) hd (fun q cA H1 hK hP hD hS => ?_)
  have e1 : st.map (mj_t as) = st.map (mj_t (as ++ [q])) := (mj_ts_app (by rw [hlen]; exact s6)).symm
  have e2 : Value.ref q = mj_t (as ++ [q]) (.ref n) := by
    show Value.ref q = Value.ref _
    rw [List.getD_eq_getElem?_getD, ← hlen, List.getElem?_concat_length]
    rfl
  rw [e1, e2]
  refine k p l e R s m args below meth c D b e0 B0 MC MS as0 QQ X E (as ++ [q]) H1 locs ls (cells + 1) (slots + L) ⟨?_, hS, by obtain ⟨ex, rfl⟩ := s3; exact ⟨ex ++ [q], by rw [List.append_assoc]⟩, by rw [mj_al_app lv 0 (by rw [hlen]; exact s5)]; exact s4, mj_oks_mono (Nat.le_succ n) s5, ⟨Nat.lt_succ_self n, mj_oks_mono (Nat.le_succ n) s6⟩, by omega, by omega⟩
  exact mj_Hp_new (t2 := [(cA, .int)]) h1 h2 h3 h4 hK h8 hP hD (mj_scr h9 s2 hS x14 x15) (mj_mk0 (t0 := tys.length) List.getElem?_concat_length)
theorem mj_newq {x : Int32} {L idx ci : Nat} (hd : decode M.2.1 pc = .ok (.anewarray idx, 3)) (hcl : Cond.classLink M.2.2.2.2.1 idx (mT_C ci) ∈ mj_TW) (hao : ∀ s, mj_XW s → va_AO (mT_C ci) s) (hx : ¬ x < 0) (hL : x.toNatClampNeg = L) (hsz : L ≤ 1000) (hq : pc + 3 = q)
    (k : mj_W M d mc ms Q q lv (.ref n :: st) (n + 1, mj_row K n (1, L, ci), mj_row f n (fun _ => 0), mj_row g n (fun _ => none))) : mj_W M d (1 + mc) (L + ms) Q pc lv (.int x :: st) (n, K, f, g) := by
  subst hq
  intro p l e R s m args below meth c D b e0 B0 MC MS as0 QQ X E as H locs ls cells slots S
  obtain ⟨s1, s2, s3, s4, s5, s6, s7, s8⟩ := S
  obtain ⟨ws, tys, h1, h2, h3, h4, h5, h6, h7, h8, h9⟩ := id s1
  dsimp only at h2 h3 h4 h8 h9 s5 s6
  obtain ⟨x1, x2, x3, x4, x5, x6, x7, x8, x9, x10, x11, x12, x13, x14, x15, x16, x17, x18⟩ := id X
  have s6 := s6.2
  have hlen : as.length = n := by rw [h1, List.length_cons, List.length_cons, List.length_map, h2]
  refine va_newq (C := mT_C ci) (A := fun q => B0 ≤ q) x1 x2 x4 (x5 _ hcl) (hao s x6) h5 h6 h7 s2 (fun q h => Nat.le_trans x15 h) hx hL (by omega) (by omega) (by omega) hd (fun q cA H1 hK hP hD hS => ?_)
  have e1 : st.map (mj_t as) = st.map (mj_t (as ++ [q])) := (mj_ts_app (by rw [hlen]; exact s6)).symm
  have e2 : Value.ref q = mj_t (as ++ [q]) (.ref n) := by
    show Value.ref q = Value.ref _
    rw [List.getD_eq_getElem?_getD, ← hlen, List.getElem?_concat_length]
    rfl
  rw [e1, e2]
  refine k p l e R s m args below meth c D b e0 B0 MC MS as0 QQ X E (as ++ [q]) H1 locs ls (cells + 1) (slots + L) ⟨?_, hS, by obtain ⟨ex, rfl⟩ := s3; exact ⟨ex ++ [q], by rw [List.append_assoc]⟩, by rw [mj_al_app lv 0 (by rw [hlen]; exact s5)]; exact s4, mj_oks_mono (Nat.le_succ n) s5, ⟨Nat.lt_succ_self n, mj_oks_mono (Nat.le_succ n) s6⟩, by omega, by omega⟩
  exact mj_Hp_new (t2 := [(cA, .object (mT_C ci))]) h1 h2 h3 h4 hK h8 hP hD (mj_scr h9 s2 hS x14 x15) (mj_mk1 (t0 := tys.length) List.getElem?_concat_length)
theorem mj_objInit {h : mj_H} {idx a : Nat} (hd : decode M.2.1 pc = .ok (.invokespecial idx, 3)) (hln : Cond.methodLink M.2.2.2.2.1 idx Lib.objectInit ∈ mj_TW) (hcat : (st.map fun v => v.category).sum ≤ 8) (hq : pc + 3 = q)
    (k : mj_W M (d + 1) mc ms Q q lv st h) : mj_W M (d + 1) mc ms Q pc lv (.ref a :: st) h := by
  subst hq
  intro p l e R s m args below meth c D b e0 B0 MC MS as0 QQ X E as H locs ls cells slots S
  obtain ⟨s1, s2, s3, s4, s5, s6, s7, s8⟩ := S
  obtain ⟨x1, x2, x3, x4, x5, x6, x7, x8, x9, x10, x11, x12, x13, x14, x15, x16, x17, x18⟩ := id X
  exact W.objInit (g := F0 m pc ls ((.ref a :: st).map (mj_t as))) x1 x2 x4 (x5 _ hln) (x5 _ (mj_in 31 (by decide +kernel) rfl)) (x5 _ (mj_in 32 (by decide +kernel) rfl)) rfl (s4.1.trans x3.symm) rfl hd (by omega) (by show 2 * 0 + _ + 12 ≤ _; rw [mj_cats]; omega)
    (k p l e R s m args below meth c D b e0 B0 MC MS as0 QQ X E as H locs ls cells slots ⟨s1, s2, s3, s4, s5, s6.2, s7, s8⟩)
theorem mj_ldc {h : mj_H} {idx : Nat} {x : Int32} (hd : decode M.2.1 pc = .ok (.ldc idx, 2)) (hw : Cond.constant M.2.2.2.2.1 idx x ∈ mj_TW) (hq : pc + 2 = q) (k : mj_W M d mc ms Q q lv (.int x :: st) h) : mj_W M d mc ms Q pc lv st h := by
  subst hq
  intro p l e R s m args below meth c D b e0 B0 MC MS as0 QQ X E as H locs ls cells slots S
  obtain ⟨s1, s2, s3, s4, s5, s6, s7, s8⟩ := S
  exact lv_ldc X.1 X.2.1 X.2.2.2.1 (X.2.2.2.2.1 _ hw) hd (k p l e R s m args below meth c D b e0 B0 MC MS as0 QQ X E as H locs ls cells slots ⟨s1, s2, s3, s4, s5, ⟨trivial, s6⟩, s7, s8⟩)
theorem mj_ldcw {h : mj_H} {idx : Nat} {x : Int32} (hd : decode M.2.1 pc = .ok (.ldc_w idx, 3)) (hw : Cond.constant M.2.2.2.2.1 idx x ∈ mj_TW) (hq : pc + 3 = q) (k : mj_W M d mc ms Q q lv (.int x :: st) h) : mj_W M d mc ms Q pc lv st h := by
  subst hq
  intro p l e R s m args below meth c D b e0 B0 MC MS as0 QQ X E as H locs ls cells slots S
  obtain ⟨s1, s2, s3, s4, s5, s6, s7, s8⟩ := S
  exact lv_ldcw X.1 X.2.1 X.2.2.2.1 (X.2.2.2.2.1 _ hw) hd (k p l e R s m args below meth c D b e0 B0 MC MS as0 QQ X E as H locs ls cells slots ⟨s1, s2, s3, s4, s5, ⟨trivial, s6⟩, s7, s8⟩)
theorem mj_ldc2 {h : mj_H} {idx : Nat} {x : Int64} (hd : decode M.2.1 pc = .ok (.ldc2_w idx, 3)) (hw : Cond.constantLong M.2.2.2.2.1 idx x ∈ mj_TW) (hq : pc + 3 = q) (k : mj_W M d mc ms Q q lv (.long x :: st) h) : mj_W M d mc ms Q pc lv st h := by
  subst hq
  intro p l e R s m args below meth c D b e0 B0 MC MS as0 QQ X E as H locs ls cells slots S
  obtain ⟨s1, s2, s3, s4, s5, s6, s7, s8⟩ := S
  exact lv_ldc2 X.1 X.2.1 X.2.2.2.1 (X.2.2.2.2.1 _ hw) hd (k p l e R s m args below meth c D b e0 B0 MC MS as0 QQ X E as H locs ls cells slots ⟨s1, s2, s3, s4, s5, ⟨trivial, s6⟩, s7, s8⟩)
theorem mj_ldc2d {h : mj_H} {idx : Nat} {x : UInt64} (hd : decode M.2.1 pc = .ok (.ldc2_w idx, 3)) (hw : Cond.constantDouble M.2.2.2.2.1 idx x ∈ mj_TW) (hq : pc + 3 = q) (k : mj_W M d mc ms Q q lv (.double x :: st) h) : mj_W M d mc ms Q pc lv st h := by
  subst hq
  intro p l e R s m args below meth c D b e0 B0 MC MS as0 QQ X E as H locs ls cells slots S
  obtain ⟨s1, s2, s3, s4, s5, s6, s7, s8⟩ := S
  exact lv_ldc2d X.1 X.2.1 X.2.2.2.1 (X.2.2.2.2.1 _ hw) hd (k p l e R s m args below meth c D b e0 B0 MC MS as0 QQ X E as H locs ls cells slots ⟨s1, s2, s3, s4, s5, ⟨trivial, s6⟩, s7, s8⟩)
theorem mj_newl {x : Int32} (hd : decode M.2.1 pc = .ok (.newarray .long, 2)) (hw : Cond.arrayClass .long ∈ mj_TW) (hx : x = 1) (hq : pc + 2 = q)
    (k : mj_W M d mc ms Q q lv (.ref n :: st) (n + 1, mj_row K n (4, 1, 0), mj_row f n (fun _ => 0), mj_row g n (fun _ => none))) : mj_W M d (1 + mc) (1 + ms) Q pc lv (.int x :: st) (n, K, f, g) := by
  subst hq
  subst hx
  intro p l e R s m args below meth c D b e0 B0 MC MS as0 QQ X E as H locs ls cells slots S
  obtain ⟨s1, s2, s3, s4, s5, s6, s7, s8⟩ := S
  obtain ⟨ws, tys, h1, h2, h3, h4, h5, h6, h7, h8, h9⟩ := id s1
  dsimp only at h2 h3 h4 h8 h9 s5 s6
  obtain ⟨x1, x2, x3, x4, x5, x6, x7, x8, x9, x10, x11, x12, x13, x14, x15, x16, x17, x18⟩ := id X
  have s6 := s6.2
  have hlen : as.length = n := by rw [h1, List.length_cons, List.length_cons, List.length_map, h2]
  refine va_newa (atype := .long) (ty := .long) (A := fun q => B0 ≤ q) (a0 := (1, .inr (.inl (fun _ => 0)))) x1 x2 (x5 _ hw) rfl h5 h6 h7 s2 (fun q h => Nat.le_trans x15 h) (fun cA => rfl) (by decide) (N' := 1) (by decide) (by decide) (by omega) (by omega) hd (fun q cA H1 hK hP hD hS => ?_)
  have e1 : st.map (mj_t as) = st.map (mj_t (as ++ [q])) := (mj_ts_app (by rw [hlen]; exact s6)).symm
  have e2 : Value.ref q = mj_t (as ++ [q]) (.ref n) := by
    show Value.ref q = Value.ref _
    rw [List.getD_eq_getElem?_getD, ← hlen, List.getElem?_concat_length]
    rfl
  rw [e1, e2]
  refine k p l e R s m args below meth c D b e0 B0 MC MS as0 QQ X E (as ++ [q]) H1 locs ls (cells + 1) (slots + 1) ⟨?_, hS, by obtain ⟨ex, rfl⟩ := s3; exact ⟨ex ++ [q], by rw [List.append_assoc]⟩, by rw [mj_al_app lv 0 (by rw [hlen]; exact s5)]; exact s4, mj_oks_mono (Nat.le_succ n) s5, ⟨Nat.lt_succ_self n, mj_oks_mono (Nat.le_succ n) s6⟩, by omega, by omega⟩
  exact mj_Hp_new (t2 := [(cA, .long)]) h1 h2 h3 h4 hK h8 hP hD (mj_scr h9 s2 hS x14 x15) (mj_mk4 (t0 := tys.length) List.getElem?_concat_length (fun j hj => by
    have hj0 : j = 0 := by omega
    subst hj0
    decide))
/-- a private field of a nest mate -/
def mj_okFN (own : String) (idx ci sl : Nat) (host : String) : Prop := ci < 10 ∧ sl < mT_N ci ∧ ∀ s, mj_XW s → va_Nw (.fieldLinkNest own idx (mT_T ci sl).1 (mT_T ci sl).2.1 (mT_T ci sl).2.2.1 host) s
theorem mj_getfN {host : String} {a idx ci sl x : Nat} (hd : decode M.2.1 pc = .ok (.getfield idx, 3)) (hF : mj_okFN M.2.2.2.2.1 idx ci sl host) (hr : mT_R ci sl = 0) (hq : pc + 3 = q) (hK : K a = (2, ci, x))
    (k : mj_W M d mc ms Q q lv (.int (f a sl) :: st) (n, K, f, g)) : mj_W M d mc ms Q pc lv (.ref a :: st) (n, K, f, g) := by
  subst hq
  intro p l e R s m args below meth c D b e0 B0 MC MS as0 QQ X E as H locs ls cells slots S
  obtain ⟨s1, s2, s3, s4, s5, s6, s7, s8⟩ := S
  obtain ⟨ws, tys, h1, h2, h3, h4, h5, h6, h7, h8, h9⟩ := id s1
  dsimp only at h2 h3 h4 h8 h9
  obtain ⟨j, e1, rfl, hj, hc⟩ := mj_place h1 h2 h4 h8 s6.1 (by rw [hK]; simp)
  rw [hK] at hc
  obtain ⟨hci, he⟩ := mj_cell2 hc
  subst he
  obtain ⟨f1, f2, f3⟩ := hF
  refine va_getN (host := host) (ref := (mT_T ci sl).1) (C := mT_C ci) (T := mT_T ci) (N := mT_N ci) X.1 X.2.1 X.2.2.2.2.1 (mT_in ci f1) X.2.2.2.1 h5 h6 j hj (mT_at ci f1) sl f2 (va_Nw.use rfl (f3 s X.2.2.2.2.2.1)) (fun _ z => z) (mj_fs_get _ _ _ _ f2) hd ?_
  rw [mj_fv0 hr]
  exact k p l e R s m args below meth c D b e0 B0 MC MS as0 QQ X E as H locs ls cells slots ⟨s1, s2, s3, s4, s5, ⟨trivial, s6.2⟩, s7, s8⟩
theorem mj_getrN {host : String} {a idx ci sl x r : Nat} (hd : decode M.2.1 pc = .ok (.getfield idx, 3)) (hF : mj_okFN M.2.2.2.2.1 idx ci sl host) (hr : mT_R ci sl = 1) (hq : pc + 3 = q) (hK : K a = (2, ci, x)) (hg : g a sl = some r)
    (k : mj_W M d mc ms Q q lv (.ref r :: st) (n, K, f, g)) : mj_W M d mc ms Q pc lv (.ref a :: st) (n, K, f, g) := by
  subst hq
  intro p l e R s m args below meth c D b e0 B0 MC MS as0 QQ X E as H locs ls cells slots S
  obtain ⟨s1, s2, s3, s4, s5, s6, s7, s8⟩ := S
  obtain ⟨ws, tys, h1, h2, h3, h4, h5, h6, h7, h8, h9⟩ := id s1
  dsimp only at h2 h3 h4 h8 h9
  obtain ⟨j, e1, rfl, hj, hc⟩ := mj_place h1 h2 h4 h8 s6.1 (by rw [hK]; simp)
  rw [hK] at hc
  obtain ⟨hci, he⟩ := mj_cell2 hc
  subst he
  obtain ⟨f1, f2, f3⟩ := hF
  refine va_getN (host := host) (ref := (mT_T ci sl).1) (C := mT_C ci) (T := mT_T ci) (N := mT_N ci) X.1 X.2.1 X.2.2.2.2.1 (mT_in ci f1) X.2.2.2.1 h5 h6 j hj (mT_at ci f1) sl f2 (va_Nw.use rfl (f3 s X.2.2.2.2.2.1)) (fun _ z => z) (mj_fs_get _ _ _ _ f2) hd ?_
  rw [mj_fv1 hr, hg]
  exact k p l e R s m args below meth c D b e0 B0 MC MS as0 QQ X E as H locs ls cells slots ⟨s1, s2, s3, s4, s5, ⟨h3 _ _ _ hg, s6.2⟩, s7, s8⟩
theorem mj_putfN {host : String} {a idx ci sl x : Nat} {v : Int32} (hd : decode M.2.1 pc = .ok (.putfield idx, 3)) (hF : mj_okFN M.2.2.2.2.1 idx ci sl host) (hr : mT_R ci sl = 0) (hq : pc + 3 = q) (hK : K a = (2, ci, x)) (hfin : (mT_T ci sl).2.2.2 = false) (hn : narrow (mT_ty ci sl) (.int v) = .int v) (hfit : fits (mT_ty ci sl) (.int v) = true)
    (k : mj_W M d mc ms Q q lv st (n, K, mj_up f a sl v, g)) : mj_W M d mc ms Q pc lv (.int v :: .ref a :: st) (n, K, f, g) := by
  subst hq
  intro p l e R s m args below meth c D b e0 B0 MC MS as0 QQ X E as H locs ls cells slots S
  obtain ⟨s1, s2, s3, s4, s5, s6, s7, s8⟩ := S
  obtain ⟨ws, tys, h1, h2, h3, h4, h5, h6, h7, h8, h9⟩ := id s1
  dsimp only at h2 h3 h4 h8 h9
  obtain ⟨j, e1, rfl, hj, hc⟩ := mj_place h1 h2 h4 h8 s6.2.1 (by rw [hK]; simp)
  rw [hK] at hc
  obtain ⟨hci, he⟩ := mj_cell2 hc
  subst he
  obtain ⟨f1, f2, f3⟩ := hF
  refine va_putN (host := host) (ref := (mT_T ci sl).1) (C := mT_C ci) (T := mT_T ci) (N := mT_N ci) X.1 X.2.1 X.2.2.2.2.1 (mT_in ci f1) (mT_ty ci) (mT_tyok ci f1) (mT_nm ci f1) X.2.2.2.1 h5 h6 h7 s2 j hj (mT_at ci f1) sl f2 (va_Nw.use rfl (f3 s X.2.2.2.2.2.1)) (fun _ z => z) hfin (mT_tyok ci f1 sl f2) hn hfit (by rw [mj_fs_len]; exact f2) hd (fun H1 locs1 hP hD hS => ?_)
  refine k p l e R s m args below meth c D b e0 B0 MC MS as0 QQ X E as H1 locs1 ls cells slots ⟨?_, hS, s3, s4, s5, s6.2.2, s7, s8⟩
  refine mj_Hp_set h1 h2 h3 h4 h5 h8 hj hP hD (mj_scr h9 s2 hS X.2.2.2.2.2.2.2.2.2.2.2.2.2.1 X.2.2.2.2.2.2.2.2.2.2.2.2.2.2.1) ?_ (fun i hi => by funext z; simp [mj_up, hi]) (fun i hi => rfl)
  rw [hK, mj_fs_set (f1 := mj_up f (j + 2) sl v (j + 2)) (g1 := g (j + 2)) (by rw [mj_fv0 hr]; simp [mj_up]; rfl) f2 (fun i hi _ => by simp [mj_up, hi]) (fun i hi => rfl)]
  exact mj_mk2 f1
/-- an iterator's hasNext, by its interface -/
theorem mj_callF0 {a ci x count mc1 ms1 : Nat} {Kc : mj_M} {xm : MethodName} {h : mj_H} {Q1 : mj_Q} (hd : decode M.2.1 pc = .ok (.invokeinterface idx count, 5)) (hln : Cond.methodLink M.2.2.2.2.1 idx xm ∈ mj_TW) (hsel : Cond.selects Kc.1.cls xm Kc.1 ∈ mj_TW) (hinst : Cond.instanceMethod Kc.1 ∈ mj_TW) (hini : Cond.initialized Kc.1.cls ∈ mj_TW) (hcode : Cond.code Kc.1 Kc.2.1 Kc.2.2.1 Kc.2.2.2.1 ∈ mj_TW)
    (hF : ∀ s, mj_XW s → va_Fw Kc.1.cls xm Kc.1 s) (hx : xm.cls ≠ "java/lang/invoke/MethodHandle" ∧ xm.cls ≠ "java/lang/invoke/VarHandle" ∧ (parseMethodDescriptor xm.desc).map (fun d => d.parameters.length) = some 0) (hcat : (st.map fun v => v.category).sum ≤ 8) (hL : Kc.2.2.1 ≤ 21) (hci : ci < 10) (hK : h.2.1 a = (2, ci, x)) (hC : mT_C ci = Kc.1.cls)
    (hM : mj_C Kc d mc1 ms1 [.ref a] h Q1) (hq : pc + 5 = q) (k : ∀ v h1, Q1.1 v h1 → mj_W M (d + 1) mc ms Q q lv (v.toList ++ st) h1) (kx : ∀ n h1, Q1.2 n h1 → mj_T M (d + 1) mc ms Q pc lv n h1) : mj_W M (d + 1) (mc1 + mc) (ms1 + ms) Q pc lv (.ref a :: st) h := by
  intro p l e R s m args below meth c D b e0 B0 MC MS as0 QQ X E as H locs ls cells slots S
  obtain ⟨s1, s2, s3, s4, s5, s6, s7, s8⟩ := id S
  obtain ⟨x1, x2, x3, x4, x5, x6, x7, x8, x9, x10, x11, x12, x13, x14, x15, x16, x17, x18⟩ := id X
  have hrecv := mj_recv s1 s6.1 (C := Kc.1.cls) (by rw [hK]; exact ⟨rfl, hC⟩)
  obtain ⟨ws, tys, h1, h2, h3, h4, h5, h6, h7, h8, h9⟩ := id s1
  have hG : GoodIn mj_TW (va_wsF M.2.2.2.2.1 idx Kc.1.cls xm Kc.1 (mj_ws Kc)) := by
    intro w hw
    have hm : w ∈ mj_TW := by
      unfold va_wsF at hw
      rcases List.mem_append.mp hw with hw | hw
      · simp only [List.mem_cons, List.not_mem_nil, or_false] at hw
        rcases hw with rfl | rfl | rfl | rfl <;> assumption
      · rcases List.mem_cons.mp hw with rfl | hw
        · exact hcode
        · exact hw
    exact ⟨hm, good_of_word (mj_TWg _ hm)⟩
  have cw := va_cwF (R := R) (s := s) (args := args) (own := M.2.2.2.2.1) (C := Kc.1.cls) (index := idx) (x := xm) (y := Kc.1) (bytes := Kc.2.1) (maxL := Kc.2.2.1) (ret := Kc.2.2.2.1) (ws := mj_ws Kc) (rm := mj_rm d mc1 ms1) (mc := mc1) (ms := ms1) 0 x5 hG rfl rfl rfl (hF s x6) hx ⟨by show d + 1 ≤ R.frames; omega, by show 8 + (Kc.2.2.1 + 11) + 40 * d ≤ R.locals; omega⟩
  have hat : ClassAt s Kc.1.cls (D.1 ci) := by
    rw [← hC]
    exact (h5.1 ci _ (mT_at ci hci)).2
  have hrun := vx_runF (p := p) (l := l) (e := e) (R := R) (s := s) (m := m) (args := args) (below := below) (meth := meth) (c := c) (H := H) (locs := locs) (cells := cells) (slots := slots) (cc := M.2.1) (nL := M.2.2.1) (own := M.2.2.2.2.1) (C := Kc.1.cls) (b := as.getD a 0) (As := []) (rest := st.map (mj_t as)) (g := F0 m pc ls ((.ref a :: st).map (mj_t as))) (index := idx) (count := count) (n := 0) (x := xm) (y := Kc.1) (bytes := Kc.2.1) (maxL := Kc.2.2.1) (ret := Kc.2.2.2.1) (mc := mc1) (ms := ms1)
    hat ⟨x1, x2, x3, x4, x5⟩ (hM l x17 D b e0 B0 as) cw
    ⟨mj_Pc_blind _ _ _ _ _ _ _, hrecv, fun U hU hW => ⟨rfl, by rw [hU]; exact mj_Hp.moved hW.alike s1, ⟨s6.1, trivial⟩, mj_XW.warm hW x6, x14, by rw [hU]; exact Nat.le_trans x15 s2.1, mj_S0.kept x16 s2 hU hW⟩⟩
    rfl rfl s4.1 rfl (lv_room (by rw [mj_cats]; exact hcat)) hd ⟨by show cells + mc1 ≤ R.cells; omega, by show slots + ms1 ≤ R.slots; omega⟩
  subst hq
  exact mj_after0 X E ⟨s1, s2, s3, s4, s5, s6.2, s7, s8⟩ hrun k kx
/-- new X(text) is thrown -/
theorem mj_throw {ik is ic nx : Nat} {text : String} (hM : M.2.2.2.2.2.2 = []) (d0 : decode M.2.1 pc = .ok (.new ik, 3)) (d3 : decode M.2.1 (pc + 3) = .ok (.dup, 1)) (d4 : decode M.2.1 (pc + 4) = .ok (.ldc is, 2)) (d6 : decode M.2.1 (pc + 6) = .ok (.invokespecial ic, 3)) (d9 : decode M.2.1 (pc + 9) = .ok (.athrow, 1))
    (hfit : Bundle.fit (mj_xn nx) = true) (hk : Cond.classLink M.2.2.2.2.1 ik (mj_xn nx) ∈ mj_TW) (hini : Cond.initialized (mj_xn nx) ∈ mj_TW) (hstr : ∀ s, mj_XW s → ∃ sa, vk_R M.2.2.2.2.1 is text sa s)
    (hat : ∀ (s : State) (args : Array Value), (∀ w ∈ mj_TW, w.before args s = true) → mj_XW s → ∀ w ∈ vx_atS M.2.2.2.2.1 ic (mj_xn nx) ["java/lang/RuntimeException", "java/lang/Exception"], w.before args s = true)
    (hgood : ∀ w ∈ Cond.classLink M.2.2.2.2.1 ik (mj_xn nx) :: Cond.initialized (mj_xn nx) :: vx_atS M.2.2.2.2.1 ic (mj_xn nx) ["java/lang/RuntimeException", "java/lang/Exception"], vx_ot w = true)
    (hd : 6 ≤ d) (hcat : (st.map fun v => v.category).sum ≤ 8) {h : mj_H} (hq : Q.2 nx h) : mj_W M d (1 + mc) (6 + ms) Q pc lv st h := by
  intro p l e R s m args below meth c D b e0 B0 MC MS as0 QQ X E as H locs ls cells slots S
  obtain ⟨s1, s2, s3, s4, s5, s6, s7, s8⟩ := id S
  obtain ⟨x1, x2, x3, x4, x5, x6, x7, x8, x9, x10, x11, x12, x13, x14, x15, x16, x17, x18⟩ := id X
  obtain ⟨sa, hsa⟩ := hstr s x6
  have htab : c.exceptionTable.toList = [] := by
    rw [hM] at x18
    exact List.map_eq_nil_iff.mp x18
  have k := vx_throwS (p := p) (l := l) (e := e) (R := R) (s := s) (m := m) (args := args) (below := below) (meth := meth) (c := c) (H := H) (locs := locs) (cells := cells) (slots := slots) (ls := ls) (rest := st.map (mj_t as)) (free := fun q => B0 ≤ q) (Qc := fun _ _ _ _ => False) (XC := mj_XC D b e0 B0 as0 Q.2) (mc := MC) (ms := MS) (cc := M.2.1) (pc := pc) (A := fun q => B0 ≤ q) (text := text) (names := ["java/lang/RuntimeException", "java/lang/Exception"])
    x1 x2 x17 x4 hfit (by decide +kernel) (x5 _ hk) (x5 _ hini) hsa (hat s args x5 x6) hgood x16.1 x16.2.1 s2 (s4.1.trans x3.symm) d0 d3 d4 d6 d9 (by rw [htab]; intro x hx; cases hx)
    (by show 2 + 3 < R.frames; omega) (by rw [mj_cats]; show _ + (13 * (2 + 1) + 43) ≤ R.locals; omega) (by omega) (by omega) x8
    (fun t hal hsz hold => ⟨⟨nx, as, h, rfl, hq, s3, by
      obtain ⟨ws, tys, h1, h2, h3, h4, h5, h6, h7, h8, h9⟩ := s1
      exact ⟨ws, tys, h1, h2, h3, h4, va_K.moved hal h5, mj_P_old h6 hold, h7, h8, va_X.moved hal (va_X.kept h9 (hold _ (Nat.lt_of_lt_of_le x14 (Nat.le_trans x15 s2.1))))⟩⟩, Nat.le_trans s2.1 hsz, fun q hq1 hq2 => by rw [hold q (Nat.lt_of_lt_of_le hq1 s2.1)]; exact s2.2.1 q hq1 hq2⟩)
    s2.2.2 (by omega) (by omega)
  intro T hT XT
  obtain ⟨t, a1, b1⟩ := k T hT XT
  exact ⟨t, a1, E.2 t b1⟩
end MJ4
