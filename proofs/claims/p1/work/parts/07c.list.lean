/-! RULES for lists: the shared empty row is cell 1; a row of any objects is of kind 6 -/
def mj_okFS (own : String) (idx ci sl : Nat) (ref : String) : Prop := ci < 10 ∧ sl < mT_N ci ∧ Cond.fieldLink own idx ref (mT_T ci sl).2.1 (mT_T ci sl).2.2.1 ∈ mj_TW ∧ ∀ (s : State) (args : Array Value), (∀ w ∈ mj_TW, w.before args s = true) → ∀ z, s.fieldFound? (mT_T ci sl).1 (mT_T ci sl).2.1 (mT_T ci sl).2.2.1 = some z → s.fieldFound? ref (mT_T ci sl).2.1 (mT_T ci sl).2.2.1 = some z
section MJ4c
variable {M : mj_M} {d mc ms idx : Nat} {Q : mj_Q} {pc q : Nat} {lv st : List Value} {n : Nat} {K : Nat → mj_K} {f : Nat → Nat → Int32} {g : Nat → Nat → Option Nat}
theorem mj_putr2 {a idx ci sl x r : Nat} (hd : decode M.2.1 pc = .ok (.putfield idx, 3)) (hF : mj_okF M.2.2.2.2.1 idx ci sl) (hr : mT_R ci sl = 1) (hq : pc + 3 = q) (hK : K a = (2, ci, x)) (hfin : (mT_T ci sl).2.2.2 = false) (hn : ∀ z, narrow (mT_ty ci sl) (.ref z) = .ref z) (hfit : ∀ z, fits (mT_ty ci sl) (.ref z) = true)
    (k : mj_W M d mc ms Q q lv st (n, K, f, mj_up g a sl (some r))) : mj_W M d mc ms Q pc lv (.ref r :: .ref a :: st) (n, K, f, g) := by
  subst hq
  intro p l e R s m args below meth c D b e0 B0 MC MS as0 QQ X E as H locs ls cells slots S
  obtain ⟨s1, s2, s3, s4, s5, s6, s7, s8⟩ := S
  obtain ⟨ws, tys, h1, h2, h3, h4, h5, h6, h7, h8, h9⟩ := id s1
  dsimp only at h2 h3 h4 h8 h9
  obtain ⟨j, e1, rfl, hj, hc⟩ := mj_place h1 h2 h4 h8 s6.2.1 (by rw [hK]; simp)
  rw [hK] at hc
  obtain ⟨hci, he⟩ := mj_cell2 hc
  subst he
  obtain ⟨f1, f2, f3⟩ := hF
  refine va_put (ref := (mT_T ci sl).1) (C := mT_C ci) (T := mT_T ci) (N := mT_N ci) X.1 X.2.1 X.2.2.2.2.1 (mT_in ci f1) (mT_ty ci) (mT_tyok ci f1) (mT_nm ci f1) X.2.2.2.1 h5 h6 h7 s2 j hj (mT_at ci f1) sl f2 (X.2.2.2.2.1 _ f3) (fun _ z => z) hfin (mT_tyok ci f1 sl f2) (hn _) (hfit _) (by rw [mj_fs_len]; exact f2) hd (fun H1 locs1 hP hD hS => ?_)
  refine k p l e R s m args below meth c D b e0 B0 MC MS as0 QQ X E as H1 locs1 ls cells slots ⟨?_, hS, s3, s4, s5, s6.2.2, s7, s8⟩
  refine mj_Hp_set h1 h2 ?_ h4 h5 h8 hj hP hD (mj_scr h9 s2 hS X.2.2.2.2.2.2.2.2.2.2.2.2.2.1 X.2.2.2.2.2.2.2.2.2.2.2.2.2.2.1) ?_ (fun i hi => rfl) (fun i hi => by funext z; simp [mj_up, hi])
  · intro k0 j0 c0 hc0
    unfold mj_up at hc0
    split at hc0
    · cases hc0; exact s6.1
    · exact h3 _ _ _ hc0
  rw [hK, mj_fs_set (f1 := f (j + 2)) (g1 := mj_up g (j + 2) sl (some r) (j + 2)) (by rw [mj_fv1 hr]; simp [mj_up]; rfl) f2 (fun i hi _ => rfl) (fun i hi => by simp [mj_up, hi])]
  exact mj_mk2 f1
theorem mj_getfS {ref : String} {a idx ci sl x : Nat} (hd : decode M.2.1 pc = .ok (.getfield idx, 3)) (hF : mj_okFS M.2.2.2.2.1 idx ci sl ref) (hr : mT_R ci sl = 0) (hq : pc + 3 = q) (hK : K a = (2, ci, x))
    (k : mj_W M d mc ms Q q lv (.int (f a sl) :: st) (n, K, f, g)) : mj_W M d mc ms Q pc lv (.ref a :: st) (n, K, f, g) := by
  subst hq
  intro p l e R s m args below meth c D b e0 B0 MC MS as0 QQ X E as H locs ls cells slots S
  obtain ⟨s1, s2, s3, s4, s5, s6, s7, s8⟩ := S
  obtain ⟨ws, tys, h1, h2, h3, h4, h5, h6, h7, h8, h9⟩ := id s1
  dsimp only at h2 h3 h4 h8 h9
  obtain ⟨j, e1, rfl, hj, hc⟩ := mj_place h1 h2 h4 h8 s6.1 (by rw [hK]; simp)
  rw [hK] at hc
  obtain ⟨hci, he⟩ := mj_cell2 hc
  subst he
  obtain ⟨f1, f2, f3, f4⟩ := hF
  refine va_get (ref := ref) (C := mT_C ci) (T := mT_T ci) (N := mT_N ci) X.1 X.2.1 X.2.2.2.2.1 (mT_in ci f1) X.2.2.2.1 h5 h6 j hj (mT_at ci f1) sl f2 (X.2.2.2.2.1 _ f3) (f4 s args X.2.2.2.2.1) (mj_fs_get _ _ _ _ f2) hd ?_
  rw [mj_fv0 hr]
  exact k p l e R s m args below meth c D b e0 B0 MC MS as0 QQ X E as H locs ls cells slots ⟨s1, s2, s3, s4, s5, ⟨trivial, s6.2⟩, s7, s8⟩
theorem mj_putfS {ref : String} {a idx ci sl x : Nat} {v : Int32} (hd : decode M.2.1 pc = .ok (.putfield idx, 3)) (hF : mj_okFS M.2.2.2.2.1 idx ci sl ref) (hr : mT_R ci sl = 0) (hq : pc + 3 = q) (hK : K a = (2, ci, x)) (hfin : (mT_T ci sl).2.2.2 = false) (hn : narrow (mT_ty ci sl) (.int v) = .int v) (hfit : fits (mT_ty ci sl) (.int v) = true)
    (k : mj_W M d mc ms Q q lv st (n, K, mj_up f a sl v, g)) : mj_W M d mc ms Q pc lv (.int v :: .ref a :: st) (n, K, f, g) := by
  subst hq
  intro p l e R s m args below meth c D b e0 B0 MC MS as0 QQ X E as H locs ls cells slots S
  obtain ⟨s1, s2, s3, s4, s5, s6, s7, s8⟩ := S
  obtain ⟨ws, tys, h1, h2, h3, h4, h5, h6, h7, h8, h9⟩ := id s1
  dsimp only at h2 h3 h4 h8 h9
  obtain ⟨j, e1, rfl, hj, hc⟩ := mj_place h1 h2 h4 h8 s6.2.1 (by rw [hK]; simp)
  rw [hK] at hc
  obtain ⟨hci, he⟩ := mj_cell2 hc
  subst he
  obtain ⟨f1, f2, f3, f4⟩ := hF
  refine va_put (ref := ref) (C := mT_C ci) (T := mT_T ci) (N := mT_N ci) X.1 X.2.1 X.2.2.2.2.1 (mT_in ci f1) (mT_ty ci) (mT_tyok ci f1) (mT_nm ci f1) X.2.2.2.1 h5 h6 h7 s2 j hj (mT_at ci f1) sl f2 (X.2.2.2.2.1 _ f3) (f4 s args X.2.2.2.2.1) hfin (mT_tyok ci f1 sl f2) hn hfit (by rw [mj_fs_len]; exact f2) hd (fun H1 locs1 hP hD hS => ?_)
  refine k p l e R s m args below meth c D b e0 B0 MC MS as0 QQ X E as H1 locs1 ls cells slots ⟨?_, hS, s3, s4, s5, s6.2.2, s7, s8⟩
  refine mj_Hp_set h1 h2 h3 h4 h5 h8 hj hP hD (mj_scr h9 s2 hS X.2.2.2.2.2.2.2.2.2.2.2.2.2.1 X.2.2.2.2.2.2.2.2.2.2.2.2.2.2.1) ?_ (fun i hi => by funext z; simp [mj_up, hi]) (fun i hi => rfl)
  rw [hK, mj_fs_set (f1 := mj_up f (j + 2) sl v (j + 2)) (g1 := g (j + 2)) (by rw [mj_fv0 hr]; simp [mj_up]; rfl) f2 (fun i hi _ => by simp [mj_up, hi]) (fun i hi => rfl)]
  exact mj_mk2 f1
theorem mj_gete (hd : decode M.2.1 pc = .ok (.getstatic idx, 3)) (hl : Cond.fieldLink M.2.2.2.2.1 idx "java/util/ArrayList" "DEFAULTCAPACITY_EMPTY_ELEMENTDATA" "[Ljava/lang/Object;" ∈ mj_TW) (hn : 1 < n) (hq : pc + 3 = q)
    (k : mj_W M d mc ms Q q lv (.ref 1 :: st) (n, K, f, g)) : mj_W M d mc ms Q pc lv st (n, K, f, g) := by
  subst hq
  intro p l e R s m args below meth c D b e0 B0 MC MS as0 QQ X E as H locs ls cells slots S
  obtain ⟨s1, s2, s3, s4, s5, s6, s7, s8⟩ := S
  obtain ⟨x1, x2, x3, x4, x5, x6, x7, x8, x9, x10, x11, x12, x13, x14, x15, x16, x17, x18⟩ := id X
  have h0 : as.getD 1 0 = e0 := by
    obtain ⟨ws, tys, h1, -⟩ := id s1
    rw [h1]; rfl
  refine va_gets x1 x2 x16.2.2.1 s2 x4 (x5 _ hl) (fun _ z => z) hd ?_
  have kk := k p l e R s m args below meth c D b e0 B0 MC MS as0 QQ X E as H locs ls cells slots ⟨s1, s2, s3, s4, s5, ⟨hn, s6⟩, s7, s8⟩
  have e1 : List.map (mj_t as) (.ref 1 :: st) = .ref e0 :: st.map (mj_t as) := by
    show Value.ref (as.getD 1 0) :: _ = _
    rw [h0]
  rw [e1] at kk
  exact kk
theorem mj_elen (hd : decode M.2.1 pc = .ok (.arraylength, 1)) (hq : pc + 1 = q)
    (k : mj_W M d mc ms Q q lv (.int 0 :: st) (n, K, f, g)) : mj_W M d mc ms Q pc lv (.ref 1 :: st) (n, K, f, g) := by
  subst hq
  intro p l e R s m args below meth c D b e0 B0 MC MS as0 QQ X E as H locs ls cells slots S
  obtain ⟨s1, s2, s3, s4, s5, s6, s7, s8⟩ := S
  obtain ⟨x1, x2, x3, x4, x5, x6, x7, x8, x9, x10, x11, x12, x13, x14, x15, x16, x17, x18⟩ := id X
  obtain ⟨-, -, -, hA, scr, g1, ⟨ty, g2⟩, g4⟩ := x16
  have h0 : as.getD 1 0 = e0 := by
    obtain ⟨ws, tys, h1, -⟩ := id s1
    rw [h1]; rfl
  have hst : List.map (mj_t as) (.ref 1 :: st) = .ref e0 :: st.map (mj_t as) := by
    show Value.ref (as.getD 1 0) :: _ = _
    rw [h0]
  rw [hst]
  exact W.alen (n := 0) x1 x2 (by rw [s2.2.1 e0 (Array.getElem?_eq_some_iff.mp g1).1 hA]; exact g1) g2 (by rw [g4]; rfl) rfl rfl hd (k p l e R s m args below meth c D b e0 B0 MC MS as0 QQ X E as H locs ls cells slots ⟨s1, s2, s3, s4, s5, ⟨trivial, s6.2⟩, s7, s8⟩)
theorem mj_acmpT {a : Nat} {off : Int} {h : mj_H} (hd : decode M.2.1 pc = .ok (.if_acmp .eq off, 3)) (ht : (pc : Int) + off = (q : Int))
    (k : mj_W M d mc ms Q q lv st h) : mj_W M d mc ms Q pc lv (.ref a :: .ref a :: st) h := by
  intro p l e R s m args below meth c D b e0 B0 MC MS as0 QQ X E as H locs ls cells slots S
  obtain ⟨s1, s2, s3, s4, s5, s6, s7, s8⟩ := S
  exact lv_acmp_eq (rx := some (as.getD a 0)) (ry := some (as.getD a 0)) X.1 X.2.1 hd ht (fun _ => k p l e R s m args below meth c D b e0 B0 MC MS as0 QQ X E as H locs ls cells slots ⟨s1, s2, s3, s4, s5, s6.2.2, s7, s8⟩) (fun z => absurd rfl z)
theorem mj_dupx1 {v w : Value} {h : mj_H} (hv : v.category = 1) (hw : w.category = 1) (hd : decode M.2.1 pc = .ok (.dup_x1, 1)) (hq : pc + 1 = q) (k : mj_W M d mc ms Q q lv (v :: w :: v :: st) h) : mj_W M d mc ms Q pc lv (v :: w :: st) h := by
  subst hq
  exact mj_pure (st1 := v :: w :: st) (st2 := v :: w :: v :: st) (fun _ _ _ _ _ _ _ _ _ _ _ _ _ _ _ _ _ hx hb => lv_dup_x1 hx hb hd (by rw [mj_t_cat]; exact hv) (by rw [mj_t_cat]; exact hw)) (fun _ h => ⟨h.1, h.2.1, h.1, h.2.2⟩) k
theorem mj_newO {x : Int32} {L : Nat} (hd : decode M.2.1 pc = .ok (.anewarray idx, 3)) (hcl : Cond.classLink M.2.2.2.2.1 idx "java/lang/Object" ∈ mj_TW) (hx : ¬ x < 0) (hL : x.toNatClampNeg = L) (hsz : L ≤ 1000) (hq : pc + 3 = q)
    (k : mj_W M d mc ms Q q lv (.ref n :: st) (n + 1, mj_row K n (6, L, 0), mj_row f n (fun _ => 0), mj_row g n (fun _ => none))) : mj_W M d (1 + mc) (L + ms) Q pc lv (.int x :: st) (n, K, f, g) := by
  subst hq
  intro p l e R s m args below meth c D b e0 B0 MC MS as0 QQ X E as H locs ls cells slots S
  obtain ⟨s1, s2, s3, s4, s5, s6, s7, s8⟩ := S
  obtain ⟨ws, tys, h1, h2, h3, h4, h5, h6, h7, h8, h9⟩ := id s1
  dsimp only at h2 h3 h4 h8 h9 s5 s6
  obtain ⟨x1, x2, x3, x4, x5, x6, x7, x8, x9, x10, x11, x12, x13, x14, x15, x16, x17, x18⟩ := id X
  have s6 := s6.2
  have hlen : as.length = n := by rw [h1, List.length_cons, List.length_cons, List.length_map, h2]
  refine va_newq (C := "java/lang/Object") (A := fun q => B0 ≤ q) x1 x2 x4 (x5 _ hcl) (mj_XW.ao32 x6) h5 h6 h7 s2 (fun q h => Nat.le_trans x15 h) hx hL (by omega) (by omega) (by omega) hd (fun q cA H1 hK hP hD hS => ?_)
  have e1 : st.map (mj_t as) = st.map (mj_t (as ++ [q])) := (mj_ts_app (by rw [hlen]; exact s6)).symm
  have e2 : Value.ref q = mj_t (as ++ [q]) (.ref n) := by
    show Value.ref q = Value.ref _
    rw [List.getD_eq_getElem?_getD, ← hlen, List.getElem?_concat_length]
    rfl
  rw [e1, e2]
  refine k p l e R s m args below meth c D b e0 B0 MC MS as0 QQ X E (as ++ [q]) H1 locs ls (cells + 1) (slots + L) ⟨?_, hS, by obtain ⟨ex, rfl⟩ := s3; exact ⟨ex ++ [q], by rw [List.append_assoc]⟩, by rw [mj_al_app lv 0 (by rw [hlen]; exact s5)]; exact s4, mj_oks_mono (Nat.le_succ n) s5, ⟨Nat.lt_succ_self n, mj_oks_mono (Nat.le_succ n) s6⟩, by omega, by omega⟩
  exact mj_Hp_new (t2 := [(cA, .object "java/lang/Object")]) h1 h2 h3 h4 hK h8 hP hD (mj_scr h9 s2 hS x14 x15) (mj_mk6 (t0 := tys.length) List.getElem?_concat_length)
theorem mj_aast6 {a L x r y Lr : Nat} {i : Int32} (hd : decode M.2.1 pc = .ok (.aastore, 1)) (hq : pc + 1 = q) (hK : K a = (6, L, x)) (hin : vp_in i L) (hr : K r = (0, Lr, y))
    (k : mj_W M d mc ms Q q lv st (n, K, f, mj_up g a i.toNatClampNeg (some r))) : mj_W M d mc ms Q pc lv (.ref r :: .int i :: .ref a :: st) (n, K, f, g) := by
  subst hq
  intro p l e R s m args below meth c D b e0 B0 MC MS as0 QQ X E as H locs ls cells slots S
  obtain ⟨s1, s2, s3, s4, s5, s6, s7, s8⟩ := S
  obtain ⟨ws, tys, h1, h2, h3, h4, h5, h6, h7, h8, h9⟩ := id s1
  dsimp only at h2 h3 h4 h8 h9
  obtain ⟨j, e1, rfl, hj, hc⟩ := mj_place h1 h2 h4 h8 s6.2.2.1 (by rw [hK]; simp)
  obtain ⟨j2, e2, rfl, hj2, hc2⟩ := mj_place h1 h2 h4 h8 s6.1 (by rw [hr]; simp)
  rw [hK] at hc
  obtain ⟨cA, t0, ht, he⟩ := mj_cell6 hc
  rw [hr] at hc2
  obtain ⟨cR, tR, htR, he2⟩ := mj_cell0 hc2
  subst he
  subst he2
  have hany : va_Any "java/lang/Object" s H (as.getD (j2 + 2) 0) := by
    have hcell := h6 j2 _ hj2
    obtain ⟨c3, c4, hc3, hc4, hasg⟩ := Cond.castable_spec (va_Nw.use (A := args) rfl (mj_XW.castI X.2.2.2.2.2.1))
    have hcR : s.vm.findClass "[I" = some cR := (h5.2 tR _ htR).2
    cases hc3.symm.trans hcR
    obtain ⟨kR, hkR, -⟩ := Vm.findClass_spec hcR
    refine ⟨_, hcell, rfl, ⟨kR, hkR⟩, fun comp hcomp => ?_⟩
    cases hc4.symm.trans hcomp
    exact hasg
  refine va_astqM (E := "java/lang/Object") X.1 X.2.1 h5 h6 h7 s2 j t0 hj ht hany hin hd (fun H1 locs1 hP hD hS => ?_)
  refine k p l e R s m args below meth c D b e0 B0 MC MS as0 QQ X E as H1 locs1 ls cells slots ⟨?_, hS, s3, s4, s5, s6.2.2.2, s7, s8⟩
  refine mj_Hp_set h1 h2 ?_ h4 h5 h8 hj hP hD (mj_scr h9 s2 hS X.2.2.2.2.2.2.2.2.2.2.2.2.2.1 X.2.2.2.2.2.2.2.2.2.2.2.2.2.2.1) ?_ (fun i hi => rfl) (fun i hi => by funext z; simp [mj_up, hi])
  · intro k0 j0 c0 hc0
    unfold mj_up at hc0
    split at hc0
    · cases hc0; exact s6.1
    · exact h3 _ _ _ hc0
  rw [hK, show va_up (fun j2 => (g (j + 2) j2).map fun b => as.getD b 0) i.toNatClampNeg (some (as.getD (j2 + 2) 0)) = fun z => (mj_up g (j + 2) i.toNatClampNeg (some (j2 + 2)) (j + 2) z).map fun b => as.getD b 0 from by
    funext z
    simp only [mj_up, va_up]
    by_cases hz : z = i.toNatClampNeg
    · simp [hz]
    · simp [hz]]
  exact mj_mk6 ht
end MJ4c
theorem fs_sameMod (s : State) (args : Array Value) (ht : ∀ w ∈ mj_TW, w.before args s = true) : ∀ z, s.fieldFound? (mT_T 1 0).1 (mT_T 1 0).2.1 (mT_T 1 0).2.2.1 = some z → s.fieldFound? "java/util/ArrayList" (mT_T 1 0).2.1 (mT_T 1 0).2.2.1 = some z := by
  intro z hz
  have h : (Cond.sameField "java/util/ArrayList" (mT_T 1 0).1 (mT_T 1 0).2.1 (mT_T 1 0).2.2.1).holds args s none s [] = true := ht _ (mj_in 865 (by decide +kernel) rfl)
  cases hr : s.fieldFound? "java/util/ArrayList" (mT_T 1 0).2.1 (mT_T 1 0).2.2.1 with
  | none => simp [Cond.holds, Cond.value, hr] at h
  | some y =>
    obtain ⟨c9, k9, i9, f9⟩ := y
    have h2 := Cond.sameField_spec hr h
    rw [← h2, hz]
theorem fs_Itr17 : mj_okFS RJx35411 17 1 0 "java/util/ArrayList" := ⟨by decide, by decide, mj_in 864 (by decide +kernel) rfl, fs_sameMod⟩
theorem fs_AL63 : mj_okFS RJx4a65c 63 1 0 "java/util/ArrayList" := ⟨by decide, by decide, mj_in 866 (by decide +kernel) rfl, fs_sameMod⟩
theorem fs_AbL7 : mj_okF RJxc12de 7 1 0 := ⟨by decide, by decide, mj_in 863 (by decide +kernel) rfl⟩
theorem fe_AL39 : Cond.fieldLink RJx4a65c 39 "java/util/ArrayList" "DEFAULTCAPACITY_EMPTY_ELEMENTDATA" "[Ljava/lang/Object;" ∈ mj_TW := mj_in 857 (by decide +kernel) rfl
theorem cl_AL7 : Cond.classLink RJx4a65c 7 "java/lang/Object" ∈ mj_TW := mj_in 1017 (by decide +kernel) rfl
