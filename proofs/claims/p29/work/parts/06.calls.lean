/-! CALLS, entries, new cells -/
theorem mj_good (K : mj_M) (hc : Cond.code K.1 K.2.1 K.2.2.1 K.2.2.2.1 ∈ mj_TW) : GoodIn mj_TW (mj_ws K) := by
  intro w hw
  rcases List.mem_cons.mp hw with rfl | h
  · exact ⟨hc, good_of_word (mj_TWg _ hc)⟩
  · exact ⟨h, good_of_word (mj_TWg _ h)⟩
theorem mj_lvcat (as : List Nat) : ∀ (vs : List Value), (lg_sl (vs.map (mj_t as))).length = (lg_sl vs).length
  | [] => rfl
  | v :: vs => by
    have ih := mj_lvcat as vs
    unfold lg_sl at ih ⊢
    rw [List.map_cons, List.flatMap_cons, List.flatMap_cons, List.length_append, List.length_append, ih, mj_t_cat]
    split <;> rfl
/-- the locals at an entry -/
def mj_lv0 : List Value → List Value
  | [] => []
  | v :: vs => if v.category = 2 then v :: .null :: mj_lv0 vs else v :: mj_lv0 vs
theorem mj_lv0_args (as : List Nat) : ∀ (vs : List Value) (i : Nat) (q : Nat × Value), q ∈ mj_al as i (mj_lv0 vs) → q ∈ lv_args i (vs.map (mj_t as))
  | [], i, q, h => by simp [mj_lv0, mj_al] at h
  | v :: vs, i, q, h => by
    rw [List.map_cons, lv_args, mj_t_cat]
    by_cases hv : v.category = 2
    · rw [if_pos hv]
      rw [mj_lv0, if_pos hv] at h
      have hn : v ≠ .null := by rintro rfl; cases hv
      have e : mj_al as i (v :: .null :: mj_lv0 vs) = (i, mj_t as v) :: mj_al as (i + 2) (mj_lv0 vs) := by
        cases v <;> first | rfl | exact absurd rfl hn
      rw [e] at h
      rcases List.mem_cons.mp h with h | h
      · exact List.mem_cons.mpr (Or.inl h)
      · exact List.mem_cons.mpr (Or.inr (mj_lv0_args as vs (i + 2) q h))
    · rw [if_neg hv]
      rw [mj_lv0, if_neg hv] at h
      by_cases hn : v = .null
      · subst hn
        exact List.mem_cons.mpr (Or.inr (mj_lv0_args as vs (i + 1) q h))
      · have e : mj_al as i (v :: mj_lv0 vs) = (i, mj_t as v) :: mj_al as (i + 1) (mj_lv0 vs) := by
          cases v <;> first | rfl | exact absurd rfl hn
        rw [e] at h
        rcases List.mem_cons.mp h with h | h
        · exact List.mem_cons.mpr (Or.inl h)
        · exact List.mem_cons.mpr (Or.inr (mj_lv0_args as vs (i + 1) q h))
theorem mj_oks_lv0 {n : Nat} : ∀ {vs : List Value}, mj_oks n vs → mj_oks n (mj_lv0 vs)
  | [], _ => trivial
  | v :: vs, h => by
    rw [mj_lv0]
    split
    · exact ⟨h.1, trivial, mj_oks_lv0 h.2⟩
    · exact ⟨h.1, mj_oks_lv0 h.2⟩
theorem mj_al_null (as : List Nat) : ∀ (k : Nat) (lv : List Value) (i : Nat), mj_al as i (lv ++ List.replicate k .null) = mj_al as i lv
  | k, v :: lv, i => by
    have ih := mj_al_null as k lv (i + 1)
    cases v <;> first | exact ih | (show _ :: mj_al as (i + 1) (lv ++ List.replicate k .null) = _ :: mj_al as (i + 1) lv; rw [ih])
  | 0, [], i => rfl
  | k + 1, [], i => mj_al_null as k [] (i + 1)
theorem mj_oks_null {n : Nat} : ∀ (k : Nat), mj_oks n (List.replicate k .null)
  | 0 => trivial
  | k + 1 => ⟨trivial, mj_oks_null k⟩
def mj_lvE (M : mj_M) (args : List Value) : List Value := mj_lv0 args ++ List.replicate (M.2.2.1 - (mj_lv0 args).length) .null
/-- what a program decides of a method -/
def mj_fine (K : mj_M) (args : List Value) : Prop := plainName K.1.cls = true ∧ (K.2.2.2.2.2 = true → K.1.name = "<init>") ∧ K.2.2.2.2.1 = K.1.cls ∧ (lg_sl args).length ≤ K.2.2.1
theorem mj_entry {K : mj_M} {d mc ms : Nat} {args : List Value} {h : mj_H} {Q : mj_Q} (hf : mj_fine K args) (hw : mj_W K d mc ms Q 0 (mj_lvE K args) [] h) : mj_C K d mc ms args h Q := by
  intro l D b B0 as
  obtain ⟨hy, hi, ho, hlen⟩ := hf
  refine Met.ofW (cc := K.2.1) (maxL := K.2.2.1) (ret := K.2.2.2.1) hy rfl ?_
  intro p e s m args' below meth c s₁ B hml hv
  obtain ⟨rfl, hH, hok, hxw, hb0, hB0⟩ := hv
  have hr := B.returns
  have hts := atoms_spec (ws := mj_ws K) B.pre
  have hown : s.vm.findClass K.1.cls = some m.cls := findClass_of_methodNamed B.named
  have hlocks := B.notSynchronized
  have hl := lv_entry (args.map (mj_t as)) (n := K.2.2.1) (by rw [mj_lvcat]; exact hlen)
  rw [lg_entry_eq]
  generalize (lg_sl (args.map (mj_t as)) ++ List.replicate (K.2.2.1 - (lg_sl (args.map (mj_t as))).length) Slot.unset).toArray = ls at hl ⊢
  refine hw p l e _ s m _ below meth c D b B0 mc ms as _ ⟨B.exec, B.bytes, hml, by rw [ho]; exact hown, fun w hw => hts w (List.mem_cons_of_mem _ hw), hxw, hr, hlocks, fun h => (name_of_methodNamed B.named B.method).1.trans (hi h), Nat.le_refl _, Nat.le_refl _, Nat.le_refl _, Nat.le_refl _, hb0, hB0⟩ ?_ as s.heap [] ls 0 0 ⟨hH, va_S.rf, ⟨[], by simp⟩, ?_, ?_, trivial, by omega, by omega⟩
  · intro as2 H locs ls cells slots pc v lv h hq hrv hd S
    obtain ⟨s1, s2, s3, s4, s5, s6, s7, s8⟩ := S
    refine W.widen (k := mc) (n := ms) (by omega) (by omega) ?_
    have hfin : ∀ t : State, t.heap = H → s.WarmedH t.vm → mj_Qc D b B0 as Q (args.map (mj_t as)).toArray s (.returned (v.map (mj_t as2))) t := fun t ht hW =>
      ⟨⟨v, as2, h, rfl, hq, s3, by rw [ht]; exact mj_Hp.moved hW.alike s1, s6⟩, s2.F ht⟩
    rcases v with _ | v
    · exact W.vret B.exec B.bytes (hr.trans hrv) hfin s2.2.2 hd
    · cases v <;> first | exact absurd hrv (fun z => z) | skip
      · obtain ⟨ty, h1, h2⟩ := hrv
        exact W.zret B.exec B.bytes (hr.trans h1) h2 hfin s2.2.2 hd
      · exact W.lret B.exec B.bytes (hr.trans hrv) hfin s2.2.2 hd
      · exact W.dret B.exec B.bytes (hr.trans hrv) hfin s2.2.2 hd
      · obtain ⟨rt, h1, h2⟩ := hrv
        exact W.aret B.exec B.bytes (hr.trans h1) h2 (Or.inr ⟨_, rfl⟩) hfin s2.2.2 hd
  · refine mj_has_sub hl (fun q hq => ?_)
    rw [mj_lvE, mj_al_null] at hq
    exact mj_lv0_args as args 0 q hq
  · rw [mj_lvE, mj_oks_app]
    exact ⟨mj_oks_lv0 hok, mj_oks_null _⟩
theorem mj_Pc_blind (D : va_G) (b B0 : Nat) (as : List Nat) (args : List Value) (h : mj_H) : FrameBlind (mj_Pc D b B0 as args h) := by
  intro a U g mk q
  obtain ⟨q1, q2, q3, q4, q5, q6⟩ := q
  exact ⟨q1, mj_Hp.moved (Vm.Alike.refl U.vm) q2, q3, mj_XW.warm (U := U.calling g mk a) (State.WarmedH.refl U) q4, q5, q6⟩
section MJ3
variable {M K : mj_M} {d mc ms mc1 ms1 : Nat} {Q Q1 : mj_Q} {pc q : Nat} {lv st : List Value} {h : mj_H} {n idx : Nat}
/-- behind a call -/
theorem mj_after {p : Program} {l : Launch} {e : Env} {R : Room} {s : State} {m : MethodId} {args : Array Value} {below : List Frame} {meth : Method} {c : Code} {D : va_G} {b B0 MC MS : Nat} {as0 as : List Nat} {QQ : State → Prop} {H : Heap} {locs : List Loc} {ls : Array Slot} {cells slots : Nat} {st0 : List Value} {a : Array Value}
    (X : mj_X M (d + 1) b B0 MC MS p R s m args meth c) (E : mj_E M Q p l e R s m args below meth c D b B0 MC MS as0 QQ) (S : mj_St M (mc1 + mc) (ms1 + ms) D b B0 MC MS as0 as s H locs ls cells slots lv st h)
    (hr : va_Run p l e R s m args below meth c H locs cells slots mc1 ms1 (F0 m pc ls st0) (st.map (mj_t as)) (mj_Qc D b B0 as Q1 a) (fun q => B0 ≤ q))
    (k : ∀ v h1, Q1 v h1 → mj_W M (d + 1) mc ms Q (pc + 3) lv (v.toList ++ st) h1) : W p l e R s m args below meth c H locs cells slots QQ (F0 m pc ls st0) := by
  obtain ⟨s1, s2, s3, s4, s5, s6, s7, s8⟩ := S
  intro T hT XT
  obtain ⟨v0, st₀, t, T', L, h0, X', hL, e1, e2, ⟨⟨v, as1, h1, hv, hq, ⟨ex, rfl⟩, hH, hok⟩, hz, hk⟩, stp⟩ := hr T hT XT
  cases hv
  rw [h0] at hz hk
  have halike : t.vm.Alike s.vm := by rw [← e2]; exact X'.warmed.alike.symm
  have hn : h.1 = as.length := by
    obtain ⟨ws, tys, g1, g2, -⟩ := s1
    rw [g1, g2, List.length_cons, List.length_map]
  have hn1 : h1.1 = (as ++ ex).length := by
    obtain ⟨ws, tys, g1, g2, -⟩ := hH
    rw [g1, g2, List.length_cons, List.length_map]
  have hle : h.1 ≤ h1.1 := by rw [hn, hn1, List.length_append]; omega
  have hS : va_S (fun q => B0 ≤ q) s.heap T'.heap (locs ++ L) := ⟨Nat.le_trans s2.1 (by rw [e1]; exact hz), fun q h1 h2 => by rw [e1, hk q (Nat.lt_of_lt_of_le h1 s2.1) h2]; exact s2.2.1 q h1 h2, fun q hq => by
      rcases List.mem_append.mp hq with h | h
      · exact s2.2.2 q h
      · exact hL q h⟩
  obtain ⟨t2, a1, b1⟩ := k v h1 hq p l e R s m args below meth c D b B0 MC MS as0 QQ X E (as ++ ex) T'.heap (locs ++ L) ls (cells + mc1) (slots + ms1)
    ⟨by rw [e1]; exact mj_Hp.moved halike hH, hS, by obtain ⟨ex0, rfl⟩ := s3; exact ⟨ex0 ++ ex, by rw [List.append_assoc]⟩, by rw [mj_al_app lv 0 (by rw [← hn]; exact s5)]; exact s4, mj_oks_mono hle s5, by rw [mj_oks_app]; exact ⟨hok, mj_oks_mono hle s6⟩, by omega, by omega⟩ T' rfl X'
  refine ⟨t2, stp t2 ?_, b1⟩
  rw [List.map_append, mj_ts_app (st := st) (by rw [← hn]; exact s6)] at a1
  have ev : List.map (mj_t (as ++ ex)) v.toList = (v.map (mj_t (as ++ ex))).toList := by cases v <;> rfl
  rw [ev] at a1
  exact a1
theorem mj_callV {a : Nat} {ci x : Nat} (As : List Value) (hd : decode M.2.1 pc = .ok (.invokevirtual idx, 3)) (hln : Cond.methodLink M.2.2.2.2.1 idx K.1 ∈ mj_TW) (hok : mj_okV K n) (hn : As.length = n) (hcat : (st.map fun v => v.category).sum ≤ 8) (hL : K.2.2.1 ≤ 21) (hK : h.2.1 a = (2, ci, x)) (hC : mT_C ci = K.1.cls)
    (hM : mj_C K d mc1 ms1 (.ref a :: As) h Q1) (k : ∀ v h1, Q1 v h1 → mj_W M (d + 1) mc ms Q (pc + 3) lv (v.toList ++ st) h1) : mj_W M (d + 1) (mc1 + mc) (ms1 + ms) Q pc lv (As.reverse ++ .ref a :: st) h := by
  intro p l e R s m args below meth c D b B0 MC MS as0 QQ X E as H locs ls cells slots S
  obtain ⟨s1, s2, s3, s4, s5, s6, s7, s8⟩ := id S
  rw [mj_oks_app, mj_oks_rev] at s6
  obtain ⟨w, o4, o5, o6⟩ := hok
  obtain ⟨o1, o2, o3, o7⟩ := w
  obtain ⟨x1, x2, x3, x4, x5, x6, x7, x8, x9, x10, x11, x12, x13, x14, x15⟩ := id X
  obtain ⟨ws, tys, h1, h2, h3, h4, h5, h6, h7, h8, h9⟩ := id s1
  obtain ⟨j, e1, rfl, hj, hc⟩ := mj_place h1 h2 h4 h8 s6.2.1 (by rw [hK]; simp)
  rcases hc with ⟨hc, -⟩ | ⟨hc, -⟩ | ⟨-, hci, he⟩
  · rw [hK] at hc; cases hc
  · rw [hK] at hc; cases hc
  rw [hK] at he hci
  dsimp only at he hci
  subst he
  have hrecv := va_recv h5 h6 (mT_at ci hci) hj
  rw [show (mT_C ci, mT_T ci, mT_N ci).1 = K.1.cls from hC] at hrecv
  have hrun := va_runV (p := p) (l := l) (e := e) (R := R) (s := s) (m := m) (args := args) (below := below) (meth := meth) (c := c) (H := H) (locs := locs) (cells := cells) (slots := slots) (cc := M.2.1) (nL := M.2.2.1) (own := M.2.2.2.2.1) (C := K.1.cls) (b := as.getD (j + 1) 0) (As := As.map (mj_t as)) (rest := st.map (mj_t as)) (g := F0 m pc ls ((As.reverse ++ .ref (j + 1) :: st).map (mj_t as))) (index := idx) (n := n) (y := K.1) (bytes := K.2.1) (maxL := K.2.2.1) (ret := K.2.2.2.1) (mc := mc1) (ms := ms1)
    ⟨x1, x2, x3, x4, x5⟩ (hM l D b B0 as)
    ⟨⟨rfl, rfl, by show d + 1 ≤ R.frames; omega, by show 8 + (K.2.2.1 + 11) + 40 * d ≤ R.locals; omega, pay_in x5 (mj_good K o7), List.mem_cons_self, x5 _ o7, x5 _ o3, ⟨o4, o5⟩, fun sig hs => by rw [hs] at o6; simpa using o6.symm, x5 _ hln⟩, x5 _ o1, x5 _ o2⟩
    ⟨mj_Pc_blind _ _ _ _ _ _, hrecv, fun U hU hW => ⟨rfl, by rw [hU]; exact mj_Hp.moved hW.alike s1, ⟨s6.2.1, s6.1⟩, mj_XW.warm hW x6, x14, by rw [hU]; exact Nat.le_trans x15 s2.1⟩⟩
    rfl (by rw [List.length_map]; exact hn) s4.1 (by show List.map (mj_t as) _ = _; rw [List.map_append, List.map_reverse]; rfl) (lv_room (by rw [mj_cats]; exact hcat)) hd ⟨by show cells + mc1 ≤ R.cells; omega, by show slots + ms1 ≤ R.slots; omega⟩
  exact mj_after X E ⟨s1, s2, s3, s4, s5, s6.2.2, s7, s8⟩ hrun k
theorem mj_callS (As : List Value) (hd : decode M.2.1 pc = .ok (.invokestatic idx, 3)) (hln : Cond.methodLink M.2.2.2.2.1 idx K.1 ∈ mj_TW) (hok : mj_okS K n) (hn : As.length = n) (hcat : (st.map fun v => v.category).sum ≤ 8) (hL : K.2.2.1 ≤ 21)
    (hM : mj_C K d mc1 ms1 As h Q1) (k : ∀ v h1, Q1 v h1 → mj_W M (d + 1) mc ms Q (pc + 3) lv (v.toList ++ st) h1) : mj_W M (d + 1) (mc1 + mc) (ms1 + ms) Q pc lv (As.reverse ++ st) h := by
  intro p l e R s m args below meth c D b B0 MC MS as0 QQ X E as H locs ls cells slots S
  obtain ⟨s1, s2, s3, s4, s5, s6, s7, s8⟩ := id S
  rw [mj_oks_app, mj_oks_rev] at s6
  obtain ⟨w, o4, o5, o6⟩ := hok
  obtain ⟨o1, o3, o7⟩ := w
  obtain ⟨x1, x2, x3, x4, x5, x6, x7, x8, x9, x10, x11, x12, x13, x14, x15⟩ := id X
  have hrun := va_runS (p := p) (l := l) (e := e) (R := R) (s := s) (m := m) (args := args) (below := below) (meth := meth) (c := c) (H := H) (locs := locs) (cells := cells) (slots := slots) (cc := M.2.1) (nL := M.2.2.1) (own := M.2.2.2.2.1) (As := As.map (mj_t as)) (rest := st.map (mj_t as)) (g := F0 m pc ls ((As.reverse ++ st).map (mj_t as))) (index := idx) (n := n) (y := K.1) (bytes := K.2.1) (maxL := K.2.2.1) (ret := K.2.2.2.1) (mc := mc1) (ms := ms1)
    ⟨x1, x2, x3, x4, x5⟩ (hM l D b B0 as)
    ⟨⟨rfl, rfl, by show d + 1 ≤ R.frames; omega, by show 8 + (K.2.2.1 + 11) + 40 * d ≤ R.locals; omega, pay_in x5 (mj_good K o7), List.mem_cons_self, x5 _ o7, x5 _ o3, ⟨o4, o5⟩, fun sig hs => by rw [hs] at o6; simpa using o6.symm, x5 _ hln⟩, x5 _ o1⟩
    ⟨mj_Pc_blind _ _ _ _ _ _, fun U hU hW => ⟨rfl, by rw [hU]; exact mj_Hp.moved hW.alike s1, s6.1, mj_XW.warm hW x6, x14, by rw [hU]; exact Nat.le_trans x15 s2.1⟩⟩
    rfl (by rw [List.length_map]; exact hn) s4.1 (by show List.map (mj_t as) _ = _; rw [List.map_append, List.map_reverse]) (lv_room (by rw [mj_cats]; exact hcat)) hd ⟨by show cells + mc1 ≤ R.cells; omega, by show slots + ms1 ≤ R.slots; omega⟩
  exact mj_after X E ⟨s1, s2, s3, s4, s5, s6.2, s7, s8⟩ hrun k
/-- a static method of a nest mate -/
theorem mj_callSN {host : String} (As : List Value) (hd : decode M.2.1 pc = .ok (.invokestatic idx, 3)) (hln : ∀ s, mj_XW s → va_Nw (.methodLinkNest M.2.2.2.2.1 idx K.1 host) s) (hok : mj_okS K n) (hn : As.length = n) (hcat : (st.map fun v => v.category).sum ≤ 8) (hL : K.2.2.1 ≤ 21)
    (hM : mj_C K d mc1 ms1 As h Q1) (k : ∀ v h1, Q1 v h1 → mj_W M (d + 1) mc ms Q (pc + 3) lv (v.toList ++ st) h1) : mj_W M (d + 1) (mc1 + mc) (ms1 + ms) Q pc lv (As.reverse ++ st) h := by
  intro p l e R s m args below meth c D b B0 MC MS as0 QQ X E as H locs ls cells slots S
  obtain ⟨s1, s2, s3, s4, s5, s6, s7, s8⟩ := id S
  rw [mj_oks_app, mj_oks_rev] at s6
  obtain ⟨w, o4, o5, o6⟩ := hok
  obtain ⟨o1, o3, o7⟩ := w
  obtain ⟨x1, x2, x3, x4, x5, x6, x7, x8, x9, x10, x11, x12, x13, x14, x15⟩ := id X
  have hrun := va_runSN (p := p) (l := l) (e := e) (R := R) (s := s) (m := m) (args := args) (below := below) (meth := meth) (c := c) (H := H) (locs := locs) (cells := cells) (slots := slots) (cc := M.2.1) (nL := M.2.2.1) (own := M.2.2.2.2.1) (host := host) (As := As.map (mj_t as)) (rest := st.map (mj_t as)) (g := F0 m pc ls ((As.reverse ++ st).map (mj_t as))) (index := idx) (n := n) (y := K.1) (bytes := K.2.1) (maxL := K.2.2.1) (ret := K.2.2.2.1) (mc := mc1) (ms := ms1)
    ⟨x1, x2, x3, x4, x5⟩ (hM l D b B0 as)
    ⟨⟨⟨rfl, rfl, by show d + 1 ≤ R.frames; omega, by show 8 + (K.2.2.1 + 11) + 40 * d ≤ R.locals; omega, pay_in x5 (mj_good K o7), List.mem_cons_self⟩, x5 _ o7, x5 _ o3, ⟨o4, o5⟩, fun sig hs => by rw [hs] at o6; simpa using o6.symm, va_Nw.use rfl (hln s x6)⟩, x5 _ o1, trivial⟩
    ⟨mj_Pc_blind _ _ _ _ _ _, fun U hU hW => ⟨rfl, by rw [hU]; exact mj_Hp.moved hW.alike s1, s6.1, mj_XW.warm hW x6, x14, by rw [hU]; exact Nat.le_trans x15 s2.1⟩⟩
    rfl (by rw [List.length_map]; exact hn) s4.1 (by show List.map (mj_t as) _ = _; rw [List.map_append, List.map_reverse]) (lv_room (by rw [mj_cats]; exact hcat)) hd ⟨by show cells + mc1 ≤ R.cells; omega, by show slots + ms1 ≤ R.slots; omega⟩
  exact mj_after X E ⟨s1, s2, s3, s4, s5, s6.2, s7, s8⟩ hrun k
theorem mj_callI {a : Nat} (As : List Value) (hd : decode M.2.1 pc = .ok (.invokespecial idx, 3)) (hln : Cond.methodLink M.2.2.2.2.1 idx K.1 ∈ mj_TW) (hok : mj_okI K n) (hn : As.length = n) (hcat : (st.map fun v => v.category).sum ≤ 8) (hL : K.2.2.1 ≤ 21)
    (hM : mj_C K d mc1 ms1 (.ref a :: As) h Q1) (k : ∀ v h1, Q1 v h1 → mj_W M (d + 1) mc ms Q (pc + 3) lv (v.toList ++ st) h1) : mj_W M (d + 1) (mc1 + mc) (ms1 + ms) Q pc lv (As.reverse ++ .ref a :: st) h := by
  intro p l e R s m args below meth c D b B0 MC MS as0 QQ X E as H locs ls cells slots S
  obtain ⟨s1, s2, s3, s4, s5, s6, s7, s8⟩ := id S
  rw [mj_oks_app, mj_oks_rev] at s6
  obtain ⟨w, o4, o5, o6⟩ := hok
  obtain ⟨o1, o3, o7⟩ := w
  obtain ⟨o8, o9, o10⟩ := o4
  obtain ⟨x1, x2, x3, x4, x5, x6, x7, x8, x9, x10, x11, x12, x13, x14, x15⟩ := id X
  have hMl := hM l D b B0 as
  unfold mj_ws at hMl
  rw [o6] at hMl
  have hrun := va_runI (p := p) (l := l) (e := e) (R := R) (s := s) (m := m) (args := args) (below := below) (meth := meth) (c := c) (H := H) (locs := locs) (cells := cells) (slots := slots) (cc := M.2.1) (nL := M.2.2.1) (own := M.2.2.2.2.1) (b := as.getD a 0) (As := As.map (mj_t as)) (rest := st.map (mj_t as)) (g := F0 m pc ls ((As.reverse ++ .ref a :: st).map (mj_t as))) (index := idx) (n := n) (y := K.1) (bytes := K.2.1) (maxL := K.2.2.1) (mc := mc1) (ms := ms1)
    ⟨x1, x2, x3, x4, x5⟩ hMl
    ⟨⟨rfl, rfl, by show d + 1 ≤ R.frames; omega, by show 8 + (K.2.2.1 + 11) + 40 * d ≤ R.locals; omega, pay_in x5 (by have := mj_good K (by rw [o6]; exact o7); unfold mj_ws at this; rw [o6] at this; exact this), List.mem_cons_self, x5 _ o7, x5 _ o3, ⟨o8, o9⟩, fun sig hs => by rw [hs] at o10; simpa using o10.symm, x5 _ hln⟩, o5, x5 _ o1⟩
    ⟨mj_Pc_blind _ _ _ _ _ _, fun U hU hW => ⟨rfl, by rw [hU]; exact mj_Hp.moved hW.alike s1, ⟨s6.2.1, s6.1⟩, mj_XW.warm hW x6, x14, by rw [hU]; exact Nat.le_trans x15 s2.1⟩⟩
    rfl (by rw [List.length_map]; exact hn) s4.1 (by show List.map (mj_t as) _ = _; rw [List.map_append, List.map_reverse]; rfl) (lv_room (by rw [mj_cats]; exact hcat)) hd ⟨by show cells + mc1 ≤ R.cells; omega, by show slots + ms1 ≤ R.slots; omega⟩
  exact mj_after X E ⟨s1, s2, s3, s4, s5, s6.2.2, s7, s8⟩ hrun k
theorem mj_callIN {a : Nat} {host : String} (As : List Value) (hd : decode M.2.1 pc = .ok (.invokespecial idx, 3)) (hln : ∀ s, mj_XW s → va_Nw (.methodLinkNest M.2.2.2.2.1 idx K.1 host) s) (hok : mj_okI K n) (hn : As.length = n) (hcat : (st.map fun v => v.category).sum ≤ 8) (hL : K.2.2.1 ≤ 21)
    (hM : mj_C K d mc1 ms1 (.ref a :: As) h Q1) (k : ∀ v h1, Q1 v h1 → mj_W M (d + 1) mc ms Q (pc + 3) lv (v.toList ++ st) h1) : mj_W M (d + 1) (mc1 + mc) (ms1 + ms) Q pc lv (As.reverse ++ .ref a :: st) h := by
  intro p l e R s m args below meth c D b B0 MC MS as0 QQ X E as H locs ls cells slots S
  obtain ⟨s1, s2, s3, s4, s5, s6, s7, s8⟩ := id S
  rw [mj_oks_app, mj_oks_rev] at s6
  obtain ⟨w, o4, o5, o6⟩ := hok
  obtain ⟨o1, o3, o7⟩ := w
  obtain ⟨o8, o9, o10⟩ := o4
  obtain ⟨x1, x2, x3, x4, x5, x6, x7, x8, x9, x10, x11, x12, x13, x14, x15⟩ := id X
  have hMl := hM l D b B0 as
  unfold mj_ws at hMl
  rw [o6] at hMl
  have hrun := va_runIN (p := p) (l := l) (e := e) (R := R) (s := s) (m := m) (args := args) (below := below) (meth := meth) (c := c) (H := H) (locs := locs) (cells := cells) (slots := slots) (cc := M.2.1) (nL := M.2.2.1) (own := M.2.2.2.2.1) (host := host) (b := as.getD a 0) (As := As.map (mj_t as)) (rest := st.map (mj_t as)) (g := F0 m pc ls ((As.reverse ++ .ref a :: st).map (mj_t as))) (index := idx) (n := n) (y := K.1) (bytes := K.2.1) (maxL := K.2.2.1) (mc := mc1) (ms := ms1)
    ⟨x1, x2, x3, x4, x5⟩ hMl
    ⟨⟨⟨rfl, rfl, by show d + 1 ≤ R.frames; omega, by show 8 + (K.2.2.1 + 11) + 40 * d ≤ R.locals; omega, pay_in x5 (by have := mj_good K (by rw [o6]; exact o7); unfold mj_ws at this; rw [o6] at this; exact this), List.mem_cons_self⟩, x5 _ o7, x5 _ o3, ⟨o8, o9⟩, fun sig hs => by rw [hs] at o10; simpa using o10.symm, va_Nw.use rfl (hln s x6)⟩, o5, x5 _ o1⟩
    ⟨mj_Pc_blind _ _ _ _ _ _, fun U hU hW => ⟨rfl, by rw [hU]; exact mj_Hp.moved hW.alike s1, ⟨s6.2.1, s6.1⟩, mj_XW.warm hW x6, x14, by rw [hU]; exact Nat.le_trans x15 s2.1⟩⟩
    rfl (by rw [List.length_map]; exact hn) s4.1 (by show List.map (mj_t as) _ = _; rw [List.map_append, List.map_reverse]; rfl) (lv_room (by rw [mj_cats]; exact hcat)) hd ⟨by show cells + mc1 ≤ R.cells; omega, by show slots + ms1 ≤ R.slots; omega⟩
  exact mj_after X E ⟨s1, s2, s3, s4, s5, s6.2.2, s7, s8⟩ hrun k
end MJ3
