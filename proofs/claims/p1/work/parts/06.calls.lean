/-! CALLS, entries; a call may throw -/
theorem mj_goodc (w0 : Cond) (hc : w0 ∈ mj_TW) : GoodIn mj_TW (w0 :: mj_TW) := by
  intro w hw
  rcases List.mem_cons.mp hw with rfl | h
  · exact ⟨hc, good_of_word (mj_TWg _ hc)⟩
  · exact ⟨h, good_of_word (mj_TWg _ h)⟩
theorem mj_S0.kept {e0 B0 : Nat} {s U : State} {H : Heap} {locs : List Loc} (h : mj_S0 e0 (fun q => B0 ≤ q) s) (hS : va_S (fun q => B0 ≤ q) s.heap H locs) (hU : U.heap = H) (hW : s.WarmedH U.vm) : mj_S0 e0 (fun q => B0 ≤ q) U := by
  obtain ⟨h1, h2, h3, h4, scr, h5, ⟨ty, h6⟩, h7⟩ := h
  rw [← hU] at hS
  exact ⟨vx_Zq.moved hW.alike (vx_Zq.kept h1 hS.2.1), vx_Zq.moved hW.alike (vx_Zq.kept h2 hS.2.1), va_Z.moved hW.alike (va_Z.kept h3 hS.2.1), h4, scr, by rw [hS.2.1 e0 (Array.getElem?_eq_some_iff.mp h5).1 h4]; exact h5, ⟨ty, State.isArrayOf_alike hW.alike h6⟩, h7⟩
theorem mj_lvcat (as : List Nat) : ∀ (vs : List Value), (lg_sl (vs.map (mj_t as))).length = (lg_sl vs).length
  | [] => rfl
  | v :: vs => by
    have ih := mj_lvcat as vs
    unfold lg_sl at ih ⊢
    rw [List.map_cons, List.flatMap_cons, List.flatMap_cons, List.length_append, List.length_append, ih, mj_t_cat]
    split <;> rfl
/-- the locals at an entry -/
def mj_lv0 : List Value → List Value
  | [] => []
  | v :: vs => if v.category = 2 then v :: .null :: mj_lv0 vs else v :: mj_lv0 vs
theorem mj_lv0_args (as : List Nat) : ∀ (vs : List Value) (i : Nat) (q : Nat × Value), q ∈ mj_al as i (mj_lv0 vs) → q ∈ lv_args i (vs.map (mj_t as))
  | [], i, q, h => by simp [mj_lv0, mj_al] at h
  | v :: vs, i, q, h => by
    rw [List.map_cons, lv_args, mj_t_cat]
    by_cases hv : v.category = 2
    · rw [if_pos hv]
      rw [mj_lv0, if_pos hv] at h
      have hn : v ≠ .null := by rintro rfl; cases hv
      have e : mj_al as i (v :: .null :: mj_lv0 vs) = (i, mj_t as v) :: mj_al as (i + 2) (mj_lv0 vs) := by
        cases v <;> first | rfl | exact absurd rfl hn
      rw [e] at h
      rcases List.mem_cons.mp h with h | h
      · exact List.mem_cons.mpr (Or.inl h)
      · exact List.mem_cons.mpr (Or.inr (mj_lv0_args as vs (i + 2) q h))
    · rw [if_neg hv]
      rw [mj_lv0, if_neg hv] at h
      by_cases hn : v = .null
      · subst hn
        exact List.mem_cons.mpr (Or.inr (mj_lv0_args as vs (i + 1) q h))
      · have e : mj_al as i (v :: mj_lv0 vs) = (i, mj_t as v) :: mj_al as (i + 1) (mj_lv0 vs) := by
          cases v <;> first | rfl | exact absurd rfl hn
        rw [e] at h
        rcases List.mem_cons.mp h with h | h
        · exact List.mem_cons.mpr (Or.inl h)
        · exact List.mem_cons.mpr (Or.inr (mj_lv0_args as vs (i + 1) q h))
theorem mj_oks_lv0 {n : Nat} : ∀ {vs : List Value}, mj_oks n vs → mj_oks n (mj_lv0 vs)
  | [], _ => trivial
  | v :: vs, h => by
    rw [mj_lv0]
    split
    · exact ⟨h.1, trivial, mj_oks_lv0 h.2⟩
    · exact ⟨h.1, mj_oks_lv0 h.2⟩
theorem mj_al_null (as : List Nat) : ∀ (k : Nat) (lv : List Value) (i : Nat), mj_al as i (lv ++ List.replicate k .null) = mj_al as i lv
  | k, v :: lv, i => by
    have ih := mj_al_null as k lv (i + 1)
    cases v <;> first | exact ih | (show _ :: mj_al as (i + 1) (lv ++ List.replicate k .null) = _ :: mj_al as (i + 1) lv; rw [ih])
  | 0, [], i => rfl
  | k + 1, [], i => mj_al_null as k [] (i + 1)
theorem mj_oks_null {n : Nat} : ∀ (k : Nat), mj_oks n (List.replicate k .null)
  | 0 => trivial
  | k + 1 => ⟨trivial, mj_oks_null k⟩
def mj_lvE (M : mj_M) (args : List Value) : List Value := mj_lv0 args ++ List.replicate (M.2.2.1 - (mj_lv0 args).length) .null
/-- what a program decides of a method -/
def mj_fine (K : mj_M) (args : List Value) : Prop := plainName K.1.cls = true ∧ (K.2.2.2.2.2.1 = true → K.1.name = "<init>") ∧ K.2.2.2.2.1 = K.1.cls ∧ (lg_sl args).length ≤ K.2.2.1
theorem mj_enter {K : mj_M} {d mc ms : Nat} {args : List Value} {h : mj_H} {Q : mj_Q} {p : Program} {l : Launch} {e : Env} {s : State} {m : MethodId} {below : List Frame} {meth : Method} {c : Code} {D : va_G} {b e0 B0 : Nat} {as : List Nat}
    (hl : l.stackTraces = false) (hx : p.tables.exec = Jvm.exec) (hb : c.code = K.2.1) (hml : c.maxLocals = K.2.2.1) (hown : s.vm.findClass K.2.2.2.2.1 = some m.cls) (hts : ∀ w ∈ mj_TW, w.before (args.map (mj_t as)).toArray s = true)
    (hr : meth.sig.returnType = K.2.2.2.1) (hlocks : meth.locks = false) (hnm : K.2.2.2.2.2.1 = true → meth.name = "<init>") (htab : c.exceptionTable.toList.map (fun h => (h.startPc, h.endPc, h.handlerPc, h.catchType)) = K.2.2.2.2.2.2) (hlen : (lg_sl args).length ≤ K.2.2.1)
    (hH : mj_Hp D b e0 as h (fun q => B0 ≤ q) s s.heap) (hok : mj_oks h.1 args) (hxw : mj_XW s) (hb0 : b < B0) (hB0 : B0 ≤ s.heap.size) (hS0 : mj_S0 e0 (fun q => B0 ≤ q) s) (hw : mj_W K d mc ms Q 0 (mj_lvE K args) [] h) :
    W p l e (mj_rm d mc ms) s m (args.map (mj_t as)).toArray below meth c s.heap [] 0 0 (vx_MQ below (mj_Qc D b e0 B0 as Q) (mj_XC D b e0 B0 as Q.2) (args.map (mj_t as)).toArray s mc ms (fun q => B0 ≤ q)) (entryFrame m (args.map (mj_t as)).toArray K.2.2.1) := by
  have hll := lv_entry (args.map (mj_t as)) (n := K.2.2.1) (by rw [mj_lvcat]; exact hlen)
  rw [lg_entry_eq]
  generalize (lg_sl (args.map (mj_t as)) ++ List.replicate (K.2.2.1 - (lg_sl (args.map (mj_t as))).length) Slot.unset).toArray = ls at hll ⊢
  refine hw p l e _ s m _ below meth c D b e0 B0 mc ms as _ ⟨hx, hb, hml, hown, hts, hxw, hr, hlocks, hnm, Nat.le_refl _, Nat.le_refl _, Nat.le_refl _, Nat.le_refl _, hb0, hB0, hS0, hl, htab⟩ ⟨?_, ?_⟩ as s.heap [] ls 0 0 ⟨hH, va_S.rf, ⟨[], by simp⟩, ?_, ?_, trivial, by omega, by omega⟩
  · intro as2 H locs ls cells slots pc v lv h hq hrv hd S
    obtain ⟨s1, s2, s3, s4, s5, s6, s7, s8⟩ := S
    refine vx_ret (W.widen (k := mc) (n := ms) (by omega) (by omega) ?_)
    have hfin : ∀ t : State, t.heap = H → s.WarmedH t.vm → mj_Qc D b e0 B0 as Q (args.map (mj_t as)).toArray s (.returned (v.map (mj_t as2))) t := fun t ht hW =>
      ⟨⟨v, as2, h, rfl, hq, s3, by rw [ht]; exact mj_Hp.moved hW.alike s1, s6⟩, s2.F ht⟩
    rcases v with _ | v
    · exact W.vret hx hb (hr.trans hrv) hfin s2.2.2 hd
    · cases v <;> first | exact absurd hrv (fun z => z) | skip
      · obtain ⟨ty, h1, h2⟩ := hrv
        exact W.zret hx hb (hr.trans h1) h2 hfin s2.2.2 hd
      · exact W.lret hx hb (hr.trans hrv) hfin s2.2.2 hd
      · exact W.dret hx hb (hr.trans hrv) hfin s2.2.2 hd
      · obtain ⟨rt, h1, h2⟩ := hrv
        exact W.aret hx hb (hr.trans h1) h2 (Or.inr ⟨_, rfl⟩) hfin s2.2.2 hd
  · rintro t ⟨o, b1, b2, b3⟩
    refine ⟨o, b1, b2, ?_⟩
    rcases b3 with ⟨z, -⟩ | b3
    · exact z.elim
    · exact Or.inr b3
  · refine mj_has_sub hll (fun q hq => ?_)
    rw [mj_lvE, mj_al_null] at hq
    exact mj_lv0_args as args 0 q hq
  · rw [mj_lvE, mj_oks_app]
    exact ⟨mj_oks_lv0 hok, mj_oks_null _⟩
theorem mj_entry {K : mj_M} {d mc ms : Nat} {args : List Value} {h : mj_H} {Q : mj_Q} (hf : mj_fine K args) (hw : mj_W K d mc ms Q 0 (mj_lvE K args) [] h) (hh : K.2.2.2.2.2.2 = [] := by rfl) : mj_C K d mc ms args h Q := by
  intro l hl D b e0 B0 as
  obtain ⟨hy, hi, ho, hlen⟩ := hf
  refine vx_ofW (cc := K.2.1) (maxL := K.2.2.1) (ret := K.2.2.2.1) hy rfl ?_
  intro p e s m args' below meth c s₁ B hml htab hv
  obtain ⟨rfl, hH, hok, hxw, hb0, hB0, hS0⟩ := hv
  have hts := atoms_spec (ws := mj_ws K) B.pre
  have hown : s.vm.findClass K.1.cls = some m.cls := findClass_of_methodNamed B.named
  exact mj_enter hl B.exec B.bytes hml (by rw [ho]; exact hown) (fun w hw => hts w (List.mem_cons_of_mem _ hw)) B.returns B.notSynchronized (fun h => (name_of_methodNamed B.named B.method).1.trans (hi h))
    (by rw [hh, List.map_eq_nil_iff]; exact List.eq_nil_iff_forall_not_mem.mpr htab) hlen hH hok hxw hb0 hB0 hS0 hw
theorem mj_entryH {K : mj_M} {d mc ms : Nat} {args : List Value} {h : mj_H} {Q : mj_Q} (hf : mj_fine K args) (hw : mj_W K d mc ms Q 0 (mj_lvE K args) [] h) : mj_CH K d mc ms args h Q := by
  intro l hl D b e0 B0 as
  obtain ⟨hy, hi, ho, hlen⟩ := hf
  refine vx_ofWH (cc := K.2.1) (maxL := K.2.2.1) (ret := K.2.2.2.1) (hh := K.2.2.2.2.2.2) hy rfl ?_
  intro p e s m args' below meth c s₁ B hml hv
  obtain ⟨rfl, hH, hok, hxw, hb0, hB0, hS0⟩ := hv
  have hts := atoms_spec (ws := mj_wsH K) B.pre
  have hown : s.vm.findClass K.1.cls = some m.cls := findClass_of_methodNamed B.named
  have htab : c.exceptionTable.toList.map (fun h => (h.startPc, h.endPc, h.handlerPc, h.catchType)) = K.2.2.2.2.2.2 := by
    obtain ⟨m9, meth9, c9, h0, h1, h2, -, -, h7, -, -, -⟩ := Cond.codeWith_spec (hts _ List.mem_cons_self)
    cases Option.some.inj (h0.symm.trans B.named)
    cases Option.some.inj (h1.symm.trans B.method)
    cases Option.some.inj (h2.symm.trans (Stand.of_body B).code)
    exact h7
  exact mj_enter hl B.exec B.bytes hml (by rw [ho]; exact hown) (fun w hw => hts w (List.mem_cons_of_mem _ hw)) B.returns B.notSynchronized (fun h => (name_of_methodNamed B.named B.method).1.trans (hi h)) htab hlen hH hok hxw hb0 hB0 hS0 hw
theorem mj_Pc_blind (D : va_G) (b e0 B0 : Nat) (as : List Nat) (args : List Value) (h : mj_H) : FrameBlind (mj_Pc D b e0 B0 as args h) := by
  intro a U g mk q
  obtain ⟨q1, q2, q3, q4, q5, q6, q7⟩ := q
  exact ⟨q1, mj_Hp.moved (Vm.Alike.refl U.vm) q2, q3, mj_XW.warm (U := U.calling g mk a) (State.WarmedH.refl U) q4, q5, q6, mj_S0.kept (U := U.calling g mk a) (locs := []) q7 va_S.rf rfl (State.WarmedH.refl U)⟩
section MJ3
variable {M K : mj_M} {d mc ms mc1 ms1 : Nat} {Q Q1 : mj_Q} {pc q : Nat} {lv st : List Value} {h : mj_H} {n idx : Nat}
/-- behind a call: len its length -/
theorem mj_after0 {p : Program} {l : Launch} {e : Env} {R : Room} {s : State} {m : MethodId} {args : Array Value} {below : List Frame} {meth : Method} {c : Code} {D : va_G} {b e0 B0 MC MS : Nat} {as0 as : List Nat} {QQ : State → Prop} {H : Heap} {locs : List Loc} {ls : Array Slot} {cells slots : Nat} {st0 : List Value} {a : Array Value} {q : Nat}
    (X : mj_X M (d + 1) b e0 B0 MC MS p l R s m args meth c) (E : mj_E M Q p l e R s m args below meth c D b e0 B0 MC MS as0 QQ) (S : mj_St M (mc1 + mc) (ms1 + ms) D b e0 B0 MC MS as0 as s H locs ls cells slots lv st h)
    (hr : ∀ T : State, T.heap = H → Stand p l e R s m args below meth c T locs cells slots →
      (∃ (v : Option Value) (st₀ t T' : State) (L : List Loc), st₀.heap = H ∧ Stand p l e R s m args below meth c T' (locs ++ L) (cells + mc1) (slots + ms1) ∧ (∀ q ∈ L, B0 ≤ q.base) ∧ T'.heap = t.heap ∧ T'.vm = t.vm ∧ mj_Qc D b e0 B0 as Q1 a st₀ (.returned v) t ∧
        Goes p e below T (F0 m pc ls st0) T' (F0 m q ls (v.toList ++ st.map (mj_t as)))) ∨
      (∃ (q : Addr) (st₀ t T' : State) (L : List Loc) (E : String) (ce : Cell), st₀.heap = H ∧ Stand p l e R s m args below meth c T' (locs ++ L) (cells + mc1) (slots + ms1) ∧ (∀ z ∈ L, B0 ≤ z.base) ∧ T'.heap = t.heap ∧ T'.vm = t.vm ∧ mj_XC D b e0 B0 as Q1.2 E st₀ t ∧ t.heap[q]? = some ce ∧ ce.vm = .none ∧ s.vm.findClass E = some ce.cls ∧
        Steps p.tables e below (T.setTop (F0 m pc ls st0)) ((T'.setTop (F0 m pc ls (st.map (mj_t as)))).pushFrame (.throwing q))))
    (k : ∀ v h1, Q1.1 v h1 → mj_W M (d + 1) mc ms Q q lv (v.toList ++ st) h1) (kx : ∀ n h1, Q1.2 n h1 → mj_T M (d + 1) mc ms Q pc lv n h1) : W p l e R s m args below meth c H locs cells slots QQ (F0 m pc ls st0) := by
  obtain ⟨s1, s2, s3, s4, s5, s6, s7, s8⟩ := S
  have hn : h.1 = as.length := by
    obtain ⟨ws, tys, g1, g2, -⟩ := s1
    rw [g1, g2, List.length_cons, List.length_cons, List.length_map]
  have hn1 : ∀ {as1 : List Nat} {h1 : mj_H} {t : State} {H1 : Heap}, mj_Hp D b e0 as1 h1 (fun q => B0 ≤ q) t H1 → h1.1 = as1.length := by
    intro as1 h1 t H1 hH
    obtain ⟨ws, tys, g1, g2, -⟩ := hH
    rw [g1, g2, List.length_cons, List.length_cons, List.length_map]
  intro T hT XT
  rcases hr T hT XT with ⟨v0, st₀, t, T', L, h0, X', hL, e1, e2, ⟨⟨v, as1, h1, hv, hq, ⟨ex, rfl⟩, hH, hok⟩, hz, hk⟩, stp⟩ | ⟨qx, st₀, t, T', L, Ex, ce, h0, X', hL, e1, e2, ⟨⟨nx, as1, h1, rfl, hq, ⟨ex, rfl⟩, hH⟩, hz, hk⟩, hce, hcv, hcl, stp⟩
  · cases hv
    rw [h0] at hz hk
    have halike : t.vm.Alike s.vm := by rw [← e2]; exact X'.warmed.alike.symm
    have hle : h.1 ≤ h1.1 := by rw [hn, hn1 hH, List.length_append]; omega
    have hS : va_S (fun q => B0 ≤ q) s.heap T'.heap (locs ++ L) := ⟨Nat.le_trans s2.1 (by rw [e1]; exact hz), fun q h1 h2 => by rw [e1, hk q (Nat.lt_of_lt_of_le h1 s2.1) h2]; exact s2.2.1 q h1 h2, fun q hq => by
        rcases List.mem_append.mp hq with h | h
        · exact s2.2.2 q h
        · exact hL q h⟩
    obtain ⟨t2, a1, b1⟩ := k v h1 hq p l e R s m args below meth c D b e0 B0 MC MS as0 QQ X E (as ++ ex) T'.heap (locs ++ L) ls (cells + mc1) (slots + ms1)
      ⟨by rw [e1]; exact mj_Hp.moved halike hH, hS, by obtain ⟨ex0, rfl⟩ := s3; exact ⟨ex0 ++ ex, by rw [List.append_assoc]⟩, by rw [mj_al_app lv 0 (by rw [← hn]; exact s5)]; exact s4, mj_oks_mono hle s5, by rw [mj_oks_app]; exact ⟨hok, mj_oks_mono hle s6⟩, by omega, by omega⟩ T' rfl X'
    refine ⟨t2, stp t2 ?_, b1⟩
    rw [List.map_append, mj_ts_app (st := st) (by rw [← hn]; exact s6)] at a1
    have ev : List.map (mj_t (as ++ ex)) v.toList = (v.map (mj_t (as ++ ex))).toList := by cases v <;> rfl
    rw [ev] at a1
    exact a1
  · rw [h0] at hz hk
    have halike : t.vm.Alike s.vm := by rw [← e2]; exact X'.warmed.alike.symm
    have hle : h.1 ≤ h1.1 := by rw [hn, hn1 hH, List.length_append]; omega
    have hS : va_S (fun q => B0 ≤ q) s.heap T'.heap (locs ++ L) := ⟨Nat.le_trans s2.1 (by rw [e1]; exact hz), fun q h1 h2 => by rw [e1, hk q (Nat.lt_of_lt_of_le h1 s2.1) h2]; exact s2.2.1 q h1 h2, fun q hq => by
        rcases List.mem_append.mp hq with h | h
        · exact s2.2.2 q h
        · exact hL q h⟩
    obtain ⟨t2, a1, b1⟩ := kx nx h1 hq p l e R s m args below meth c D b e0 B0 MC MS as0 QQ X E (as ++ ex) T'.heap (locs ++ L) ls (cells + mc1) (slots + ms1) (st.map (mj_t as)) qx ce
      ⟨by rw [e1]; exact mj_Hp.moved halike hH, hS, by obtain ⟨ex0, rfl⟩ := s3; exact ⟨ex0 ++ ex, by rw [List.append_assoc]⟩, by rw [mj_al_app lv 0 (by rw [← hn]; exact s5)]; exact s4, mj_oks_mono hle s5, trivial, by omega, by omega⟩ (by rw [e1]; exact hce) hcv hcl T' rfl X'
    exact ⟨t2, stp.trans a1, b1⟩
/-- what a call's receiver is: an object of the class C -/
def mj_rc (k : mj_K) (C : String) : Prop := k.1 = 2 ∧ mT_C k.2.1 = C
theorem mj_recv {D : va_G} {b e0 a : Nat} {as : List Nat} {A : Nat → Prop} {s : State} {H : Heap} {C : String} (hH : mj_Hp D b e0 as h A s H) (ha : a < h.1) (hK : mj_rc (h.2.1 a) C) : ∃ cellB, H[as.getD a 0]? = some cellB ∧ cellB.vm.isStatics = false ∧ s.vm.findClass C = some cellB.cls := by
  obtain ⟨ws, tys, h1, h2, h3, h4, h5, h6, h7, h8, h9⟩ := hH
  obtain ⟨j, e1, rfl, hj, hc⟩ := mj_place h1 h2 h4 h8 ha (by rw [hK.1]; decide)
  obtain ⟨hk, rfl⟩ := hK
  have e9 : h.2.1 (j + 2) = (2, (h.2.1 (j + 2)).2.1, (h.2.1 (j + 2)).2.2) := Prod.ext hk (Prod.ext rfl rfl)
  rw [e9] at hc
  obtain ⟨hci, he⟩ := mj_cell2 hc
  subst he
  exact va_recv h5 h6 (mT_at _ hci) hj
theorem mj_callV {a : Nat} (As : List Value) (hd : decode M.2.1 pc = .ok (.invokevirtual idx, 3)) (hln : Cond.methodLink M.2.2.2.2.1 idx K.1 ∈ mj_TW) (hok : mj_okV K n) (hn : As.length = n) (hcat : (st.map fun v => v.category).sum ≤ 8) (hL : K.2.2.1 ≤ 21) (hK : mj_rc (h.2.1 a) K.1.cls)
    (hM : mj_C K d mc1 ms1 (.ref a :: As) h Q1) (k : ∀ v h1, Q1.1 v h1 → mj_W M (d + 1) mc ms Q (pc + 3) lv (v.toList ++ st) h1) (kx : ∀ n h1, Q1.2 n h1 → mj_T M (d + 1) mc ms Q pc lv n h1) : mj_W M (d + 1) (mc1 + mc) (ms1 + ms) Q pc lv (As.reverse ++ .ref a :: st) h := by
  intro p l e R s m args below meth c D b e0 B0 MC MS as0 QQ X E as H locs ls cells slots S
  obtain ⟨s1, s2, s3, s4, s5, s6, s7, s8⟩ := id S
  rw [mj_oks_app, mj_oks_rev] at s6
  obtain ⟨w, o4, o5, o6⟩ := hok
  obtain ⟨o1, o2, o3, o7⟩ := w
  obtain ⟨x1, x2, x3, x4, x5, x6, x7, x8, x9, x10, x11, x12, x13, x14, x15, x16, x17, x18⟩ := id X
  have hrecv := mj_recv s1 s6.2.1 hK
  have hrun := vx_runV (p := p) (l := l) (e := e) (R := R) (s := s) (m := m) (args := args) (below := below) (meth := meth) (c := c) (H := H) (locs := locs) (cells := cells) (slots := slots) (cc := M.2.1) (nL := M.2.2.1) (own := M.2.2.2.2.1) (C := K.1.cls) (b := as.getD a 0) (As := As.map (mj_t as)) (rest := st.map (mj_t as)) (g := F0 m pc ls ((As.reverse ++ .ref a :: st).map (mj_t as))) (index := idx) (n := n) (y := K.1) (bytes := K.2.1) (maxL := K.2.2.1) (ret := K.2.2.2.1) (mc := mc1) (ms := ms1)
    ⟨x1, x2, x3, x4, x5⟩ (hM l x17 D b e0 B0 as)
    ⟨⟨rfl, rfl, by show d + 1 ≤ R.frames; omega, by show 8 + (K.2.2.1 + 11) + 40 * d ≤ R.locals; omega, pay_in x5 (mj_goodc _ o7), List.mem_cons_self, x5 _ o7, x5 _ o3, ⟨o4, o5⟩, fun sig hs => by rw [hs] at o6; simpa using o6.symm, x5 _ hln⟩, x5 _ o1, x5 _ o2⟩
    ⟨mj_Pc_blind _ _ _ _ _ _ _, hrecv, fun U hU hW => ⟨rfl, by rw [hU]; exact mj_Hp.moved hW.alike s1, ⟨s6.2.1, s6.1⟩, mj_XW.warm hW x6, x14, by rw [hU]; exact Nat.le_trans x15 s2.1, mj_S0.kept x16 s2 hU hW⟩⟩
    rfl (by rw [List.length_map]; exact hn) s4.1 (by show List.map (mj_t as) _ = _; rw [List.map_append, List.map_reverse]; rfl) (lv_room (by rw [mj_cats]; exact hcat)) hd ⟨by show cells + mc1 ≤ R.cells; omega, by show slots + ms1 ≤ R.slots; omega⟩
  exact mj_after0 X E ⟨s1, s2, s3, s4, s5, s6.2.2, s7, s8⟩ hrun k kx
theorem mj_callS (As : List Value) (hd : decode M.2.1 pc = .ok (.invokestatic idx, 3)) (hln : Cond.methodLink M.2.2.2.2.1 idx K.1 ∈ mj_TW) (hok : mj_okS K n) (hn : As.length = n) (hcat : (st.map fun v => v.category).sum ≤ 8) (hL : K.2.2.1 ≤ 21)
    (hM : mj_C K d mc1 ms1 As h Q1) (k : ∀ v h1, Q1.1 v h1 → mj_W M (d + 1) mc ms Q (pc + 3) lv (v.toList ++ st) h1) (kx : ∀ n h1, Q1.2 n h1 → mj_T M (d + 1) mc ms Q pc lv n h1) : mj_W M (d + 1) (mc1 + mc) (ms1 + ms) Q pc lv (As.reverse ++ st) h := by
  intro p l e R s m args below meth c D b e0 B0 MC MS as0 QQ X E as H locs ls cells slots S
  obtain ⟨s1, s2, s3, s4, s5, s6, s7, s8⟩ := id S
  rw [mj_oks_app, mj_oks_rev] at s6
  obtain ⟨w, o4, o5, o6⟩ := hok
  obtain ⟨o1, o3, o7⟩ := w
  obtain ⟨x1, x2, x3, x4, x5, x6, x7, x8, x9, x10, x11, x12, x13, x14, x15, x16, x17, x18⟩ := id X
  have hrun := vx_runS (p := p) (l := l) (e := e) (R := R) (s := s) (m := m) (args := args) (below := below) (meth := meth) (c := c) (H := H) (locs := locs) (cells := cells) (slots := slots) (cc := M.2.1) (nL := M.2.2.1) (own := M.2.2.2.2.1) (As := As.map (mj_t as)) (rest := st.map (mj_t as)) (g := F0 m pc ls ((As.reverse ++ st).map (mj_t as))) (index := idx) (n := n) (y := K.1) (bytes := K.2.1) (maxL := K.2.2.1) (ret := K.2.2.2.1) (mc := mc1) (ms := ms1)
    ⟨x1, x2, x3, x4, x5⟩ (hM l x17 D b e0 B0 as)
    ⟨⟨rfl, rfl, by show d + 1 ≤ R.frames; omega, by show 8 + (K.2.2.1 + 11) + 40 * d ≤ R.locals; omega, pay_in x5 (mj_goodc _ o7), List.mem_cons_self, x5 _ o7, x5 _ o3, ⟨o4, o5⟩, fun sig hs => by rw [hs] at o6; simpa using o6.symm, x5 _ hln⟩, x5 _ o1⟩
    ⟨mj_Pc_blind _ _ _ _ _ _ _, fun U hU hW => ⟨rfl, by rw [hU]; exact mj_Hp.moved hW.alike s1, s6.1, mj_XW.warm hW x6, x14, by rw [hU]; exact Nat.le_trans x15 s2.1, mj_S0.kept x16 s2 hU hW⟩⟩
    rfl (by rw [List.length_map]; exact hn) s4.1 (by show List.map (mj_t as) _ = _; rw [List.map_append, List.map_reverse]) (lv_room (by rw [mj_cats]; exact hcat)) hd ⟨by show cells + mc1 ≤ R.cells; omega, by show slots + ms1 ≤ R.slots; omega⟩
  exact mj_after0 X E ⟨s1, s2, s3, s4, s5, s6.2, s7, s8⟩ hrun k kx
/-- a static method with handlers -/
theorem mj_callH (As : List Value) (hd : decode M.2.1 pc = .ok (.invokestatic idx, 3)) (hln : Cond.methodLink M.2.2.2.2.1 idx K.1 ∈ mj_TW) (hok : mj_okH K n) (hn : As.length = n) (hcat : (st.map fun v => v.category).sum ≤ 8) (hL : K.2.2.1 ≤ 21)
    (hM : mj_CH K d mc1 ms1 As h Q1) (k : ∀ v h1, Q1.1 v h1 → mj_W M (d + 1) mc ms Q (pc + 3) lv (v.toList ++ st) h1) (kx : ∀ n h1, Q1.2 n h1 → mj_T M (d + 1) mc ms Q pc lv n h1) : mj_W M (d + 1) (mc1 + mc) (ms1 + ms) Q pc lv (As.reverse ++ st) h := by
  intro p l e R s m args below meth c D b e0 B0 MC MS as0 QQ X E as H locs ls cells slots S
  obtain ⟨s1, s2, s3, s4, s5, s6, s7, s8⟩ := id S
  rw [mj_oks_app, mj_oks_rev] at s6
  obtain ⟨w, o4, o5, o6⟩ := hok
  obtain ⟨o1, o3, o7⟩ := w
  obtain ⟨x1, x2, x3, x4, x5, x6, x7, x8, x9, x10, x11, x12, x13, x14, x15, x16, x17, x18⟩ := id X
  have hrun := vx_runSX (p := p) (l := l) (e := e) (R := R) (s := s) (m := m) (args := args) (below := below) (meth := meth) (c := c) (H := H) (locs := locs) (cells := cells) (slots := slots) (cc := M.2.1) (nL := M.2.2.1) (own := M.2.2.2.2.1) (As := As.map (mj_t as)) (rest := st.map (mj_t as)) (g := F0 m pc ls ((As.reverse ++ st).map (mj_t as))) (index := idx) (n := n) (y := K.1) (bytes := K.2.1) (maxL := K.2.2.1) (ret := K.2.2.2.1) (mc := mc1) (ms := ms1)
    ⟨x1, x2, x3, x4, x5⟩ (hM l x17 D b e0 B0 as)
    ⟨⟨rfl, rfl, by show d + 1 ≤ R.frames; omega, by show 8 + (K.2.2.1 + 11) + 40 * d ≤ R.locals; omega, pay_in x5 (mj_goodc _ o7), List.mem_cons_self⟩, x5 _ o7, x5 _ o3, ⟨o4, o5⟩, fun sig hs => by rw [hs] at o6; simpa using o6.symm, x5 _ hln, x5 _ o1⟩
    ⟨mj_Pc_blind _ _ _ _ _ _ _, fun U hU hW => ⟨rfl, by rw [hU]; exact mj_Hp.moved hW.alike s1, s6.1, mj_XW.warm hW x6, x14, by rw [hU]; exact Nat.le_trans x15 s2.1, mj_S0.kept x16 s2 hU hW⟩⟩
    rfl (by rw [List.length_map]; exact hn) s4.1 (by show List.map (mj_t as) _ = _; rw [List.map_append, List.map_reverse]) (lv_room (by rw [mj_cats]; exact hcat)) hd ⟨by show cells + mc1 ≤ R.cells; omega, by show slots + ms1 ≤ R.slots; omega⟩
  exact mj_after0 X E ⟨s1, s2, s3, s4, s5, s6.2, s7, s8⟩ hrun k kx
/-- a static method of a nest mate -/
theorem mj_callSN {host : String} (As : List Value) (hd : decode M.2.1 pc = .ok (.invokestatic idx, 3)) (hln : ∀ s, mj_XW s → va_Nw (.methodLinkNest M.2.2.2.2.1 idx K.1 host) s) (hok : mj_okS K n) (hn : As.length = n) (hcat : (st.map fun v => v.category).sum ≤ 8) (hL : K.2.2.1 ≤ 21)
    (hM : mj_C K d mc1 ms1 As h Q1) (k : ∀ v h1, Q1.1 v h1 → mj_W M (d + 1) mc ms Q (pc + 3) lv (v.toList ++ st) h1) (kx : ∀ n h1, Q1.2 n h1 → mj_T M (d + 1) mc ms Q pc lv n h1) : mj_W M (d + 1) (mc1 + mc) (ms1 + ms) Q pc lv (As.reverse ++ st) h := by
  intro p l e R s m args below meth c D b e0 B0 MC MS as0 QQ X E as H locs ls cells slots S
  obtain ⟨s1, s2, s3, s4, s5, s6, s7, s8⟩ := id S
  rw [mj_oks_app, mj_oks_rev] at s6
  obtain ⟨w, o4, o5, o6⟩ := hok
  obtain ⟨o1, o3, o7⟩ := w
  obtain ⟨x1, x2, x3, x4, x5, x6, x7, x8, x9, x10, x11, x12, x13, x14, x15, x16, x17, x18⟩ := id X
  have hrun := vx_runSN (p := p) (l := l) (e := e) (R := R) (s := s) (m := m) (args := args) (below := below) (meth := meth) (c := c) (H := H) (locs := locs) (cells := cells) (slots := slots) (cc := M.2.1) (nL := M.2.2.1) (own := M.2.2.2.2.1) (host := host) (As := As.map (mj_t as)) (rest := st.map (mj_t as)) (g := F0 m pc ls ((As.reverse ++ st).map (mj_t as))) (index := idx) (n := n) (y := K.1) (bytes := K.2.1) (maxL := K.2.2.1) (ret := K.2.2.2.1) (mc := mc1) (ms := ms1)
    ⟨x1, x2, x3, x4, x5⟩ (hM l x17 D b e0 B0 as)
    ⟨⟨⟨rfl, rfl, by show d + 1 ≤ R.frames; omega, by show 8 + (K.2.2.1 + 11) + 40 * d ≤ R.locals; omega, pay_in x5 (mj_goodc _ o7), List.mem_cons_self⟩, x5 _ o7, x5 _ o3, ⟨o4, o5⟩, fun sig hs => by rw [hs] at o6; simpa using o6.symm, va_Nw.use rfl (hln s x6)⟩, x5 _ o1, trivial⟩
    ⟨mj_Pc_blind _ _ _ _ _ _ _, fun U hU hW => ⟨rfl, by rw [hU]; exact mj_Hp.moved hW.alike s1, s6.1, mj_XW.warm hW x6, x14, by rw [hU]; exact Nat.le_trans x15 s2.1, mj_S0.kept x16 s2 hU hW⟩⟩
    rfl (by rw [List.length_map]; exact hn) s4.1 (by show List.map (mj_t as) _ = _; rw [List.map_append, List.map_reverse]) (lv_room (by rw [mj_cats]; exact hcat)) hd ⟨by show cells + mc1 ≤ R.cells; omega, by show slots + ms1 ≤ R.slots; omega⟩
  exact mj_after0 X E ⟨s1, s2, s3, s4, s5, s6.2, s7, s8⟩ hrun k kx
theorem mj_callI {a : Nat} (As : List Value) (hd : decode M.2.1 pc = .ok (.invokespecial idx, 3)) (hln : Cond.methodLink M.2.2.2.2.1 idx K.1 ∈ mj_TW) (hok : mj_okI K n) (hn : As.length = n) (hcat : (st.map fun v => v.category).sum ≤ 8) (hL : K.2.2.1 ≤ 21)
    (hM : mj_C K d mc1 ms1 (.ref a :: As) h Q1) (k : ∀ v h1, Q1.1 v h1 → mj_W M (d + 1) mc ms Q (pc + 3) lv (v.toList ++ st) h1) (kx : ∀ n h1, Q1.2 n h1 → mj_T M (d + 1) mc ms Q pc lv n h1) : mj_W M (d + 1) (mc1 + mc) (ms1 + ms) Q pc lv (As.reverse ++ .ref a :: st) h := by
  intro p l e R s m args below meth c D b e0 B0 MC MS as0 QQ X E as H locs ls cells slots S
  obtain ⟨s1, s2, s3, s4, s5, s6, s7, s8⟩ := id S
  rw [mj_oks_app, mj_oks_rev] at s6
  obtain ⟨w, o4, o5, o6⟩ := hok
  obtain ⟨o1, o3, o7⟩ := w
  obtain ⟨o8, o9, o10⟩ := o4
  obtain ⟨x1, x2, x3, x4, x5, x6, x7, x8, x9, x10, x11, x12, x13, x14, x15, x16, x17, x18⟩ := id X
  have hMl := hM l x17 D b e0 B0 as
  unfold mj_ws at hMl
  rw [o6] at hMl
  have hrun := vx_runI (p := p) (l := l) (e := e) (R := R) (s := s) (m := m) (args := args) (below := below) (meth := meth) (c := c) (H := H) (locs := locs) (cells := cells) (slots := slots) (cc := M.2.1) (nL := M.2.2.1) (own := M.2.2.2.2.1) (b := as.getD a 0) (As := As.map (mj_t as)) (rest := st.map (mj_t as)) (g := F0 m pc ls ((As.reverse ++ .ref a :: st).map (mj_t as))) (index := idx) (n := n) (y := K.1) (bytes := K.2.1) (maxL := K.2.2.1) (mc := mc1) (ms := ms1)
    ⟨x1, x2, x3, x4, x5⟩ hMl
    ⟨⟨rfl, rfl, by show d + 1 ≤ R.frames; omega, by show 8 + (K.2.2.1 + 11) + 40 * d ≤ R.locals; omega, pay_in x5 (by have := mj_goodc _ o7; exact this), List.mem_cons_self, x5 _ o7, x5 _ o3, ⟨o8, o9⟩, fun sig hs => by rw [hs] at o10; simpa using o10.symm, x5 _ hln⟩, o5, x5 _ o1⟩
    ⟨mj_Pc_blind _ _ _ _ _ _ _, fun U hU hW => ⟨rfl, by rw [hU]; exact mj_Hp.moved hW.alike s1, ⟨s6.2.1, s6.1⟩, mj_XW.warm hW x6, x14, by rw [hU]; exact Nat.le_trans x15 s2.1, mj_S0.kept x16 s2 hU hW⟩⟩
    rfl (by rw [List.length_map]; exact hn) s4.1 (by show List.map (mj_t as) _ = _; rw [List.map_append, List.map_reverse]; rfl) (lv_room (by rw [mj_cats]; exact hcat)) hd ⟨by show cells + mc1 ≤ R.cells; omega, by show slots + ms1 ≤ R.slots; omega⟩
  exact mj_after0 X E ⟨s1, s2, s3, s4, s5, s6.2.2, s7, s8⟩ hrun k kx
theorem mj_callIN {a : Nat} {host : String} (As : List Value) (hd : decode M.2.1 pc = .ok (.invokespecial idx, 3)) (hln : ∀ s, mj_XW s → va_Nw (.methodLinkNest M.2.2.2.2.1 idx K.1 host) s) (hok : mj_okI K n) (hn : As.length = n) (hcat : (st.map fun v => v.category).sum ≤ 8) (hL : K.2.2.1 ≤ 21)
    (hM : mj_C K d mc1 ms1 (.ref a :: As) h Q1) (k : ∀ v h1, Q1.1 v h1 → mj_W M (d + 1) mc ms Q (pc + 3) lv (v.toList ++ st) h1) (kx : ∀ n h1, Q1.2 n h1 → mj_T M (d + 1) mc ms Q pc lv n h1) : mj_W M (d + 1) (mc1 + mc) (ms1 + ms) Q pc lv (As.reverse ++ .ref a :: st) h := by
  intro p l e R s m args below meth c D b e0 B0 MC MS as0 QQ X E as H locs ls cells slots S
  obtain ⟨s1, s2, s3, s4, s5, s6, s7, s8⟩ := id S
  rw [mj_oks_app, mj_oks_rev] at s6
  obtain ⟨w, o4, o5, o6⟩ := hok
  obtain ⟨o1, o3, o7⟩ := w
  obtain ⟨o8, o9, o10⟩ := o4
  obtain ⟨x1, x2, x3, x4, x5, x6, x7, x8, x9, x10, x11, x12, x13, x14, x15, x16, x17, x18⟩ := id X
  have hMl := hM l x17 D b e0 B0 as
  unfold mj_ws at hMl
  rw [o6] at hMl
  have hrun := vx_runIN (p := p) (l := l) (e := e) (R := R) (s := s) (m := m) (args := args) (below := below) (meth := meth) (c := c) (H := H) (locs := locs) (cells := cells) (slots := slots) (cc := M.2.1) (nL := M.2.2.1) (own := M.2.2.2.2.1) (host := host) (b := as.getD a 0) (As := As.map (mj_t as)) (rest := st.map (mj_t as)) (g := F0 m pc ls ((As.reverse ++ .ref a :: st).map (mj_t as))) (index := idx) (n := n) (y := K.1) (bytes := K.2.1) (maxL := K.2.2.1) (mc := mc1) (ms := ms1)
    ⟨x1, x2, x3, x4, x5⟩ hMl
    ⟨⟨⟨rfl, rfl, by show d + 1 ≤ R.frames; omega, by show 8 + (K.2.2.1 + 11) + 40 * d ≤ R.locals; omega, pay_in x5 (by have := mj_goodc _ o7; exact this), List.mem_cons_self⟩, x5 _ o7, x5 _ o3, ⟨o8, o9⟩, fun sig hs => by rw [hs] at o10; simpa using o10.symm, va_Nw.use rfl (hln s x6)⟩, o5, x5 _ o1⟩
    ⟨mj_Pc_blind _ _ _ _ _ _ _, fun U hU hW => ⟨rfl, by rw [hU]; exact mj_Hp.moved hW.alike s1, ⟨s6.2.1, s6.1⟩, mj_XW.warm hW x6, x14, by rw [hU]; exact Nat.le_trans x15 s2.1, mj_S0.kept x16 s2 hU hW⟩⟩
    rfl (by rw [List.length_map]; exact hn) s4.1 (by show List.map (mj_t as) _ = _; rw [List.map_append, List.map_reverse]; rfl) (lv_room (by rw [mj_cats]; exact hcat)) hd ⟨by show cells + mc1 ≤ R.cells; omega, by show slots + ms1 ≤ R.slots; omega⟩
  exact mj_after0 X E ⟨s1, s2, s3, s4, s5, s6.2.2, s7, s8⟩ hrun k kx
/-- the thrown object is caught: the rows ahead don't take it; its handler begins with a store -/
theorem mj_T_catch {nx hpc ct i q : Nat} {name : String} (pre suf : List (Nat × Nat × Nat × Nat)) (sp ep : Nat) (htab : M.2.2.2.2.2.2 = pre ++ (sp, ep, hpc, ct) :: suf)
    (hpre : ∀ z ∈ pre, z.2.2.2 ≠ 0 ∧ ∃ nm : String, Cond.classLink M.2.2.2.2.1 z.2.2.2 nm ∈ mj_TW ∧ ∀ s, mj_XW s → va_Nc (mj_xn nx) nm s) (hsp : sp ≤ pc) (hep : pc < ep) (h0 : ct ≠ 0)
    (hlink : Cond.classLink M.2.2.2.2.1 ct name ∈ mj_TW) (hcast : ∀ s, mj_XW s → va_Nw (.castable (mj_xn nx) name) s)
    (hds : (decode M.2.1 hpc = .ok (.astore i, 2) ∧ hpc + 2 = q) ∨ (∃ j : Fin 4, decode M.2.1 hpc = .ok (.astore_n j, 1) ∧ (j : Nat) = i ∧ hpc + 1 = q)) (hi : i < M.2.2.1) (hc : mj_c1 lv i = true)
    (k : mj_W M d mc ms Q q (lv.set i .null) [] h) : mj_T M d mc ms Q pc lv nx h := by
  intro p l e R s m args below meth c D b e0 B0 MC MS as0 QQ X E as H locs ls cells slots st qx ce S hce hv hcl
  obtain ⟨s1, s2, s3, s4, s5, s6, s7, s8⟩ := id S
  obtain ⟨x1, x2, x3, x4, x5, x6, x7, x8, x9, x10, x11, x12, x13, x14, x15, x16, x17, x18⟩ := id X
  rw [htab] at x18
  obtain ⟨pre', r1, e1, e2, e3⟩ := List.map_eq_append_iff.mp x18
  obtain ⟨x', suf', e4, e5, e6⟩ := List.map_eq_cons_iff.mp e3
  have ex : x'.startPc = sp ∧ x'.endPc = ep ∧ x'.handlerPc = hpc ∧ x'.catchType = ct := by
    simp only [Prod.mk.injEq] at e5
    exact e5
  refine vx_catch (own := M.2.2.2.2.1) (name := name) (E := mj_xn nx) x4 pre' x' suf' (by rw [e1, e4]) ?_ ?_ (by rw [ex.2.2.2]; exact h0) (by rw [ex.2.2.2]; exact x5 _ hlink) (va_Nw.use rfl (hcast s x6)) hce hv hcl ?_
  · intro z hz
    refine Or.inr ?_
    have hm : (z.startPc, z.endPc, z.handlerPc, z.catchType) ∈ pre := by rw [← e2]; exact List.mem_map_of_mem hz
    obtain ⟨g1, nm, g2, g3⟩ := hpre _ hm
    exact ⟨g1, nm, x5 _ g2, g3 s x6⟩
  · simp only [covers, ex.1, ex.2.1, Bool.and_eq_true, decide_eq_true_eq]
    exact ⟨hsp, hep⟩
  rw [ex.2.2.1]
  have kk : ∀ ls2 : Array Slot, lv_has ls2 M.2.2.1 (mj_al as 0 (lv.set i .null)) → W p l e R s m args below meth c H locs cells slots QQ (F0 m q ls2 []) := fun ls2 hls =>
    k p l e R s m args below meth c D b e0 B0 MC MS as0 QQ X E as H locs ls2 cells slots ⟨s1, s2, s3, hls, mj_oks_set s5 trivial, trivial, s7, s8⟩
  have hsub : ∀ (v : Value), v.category = 1 → ∀ q2 ∈ mj_al as 0 (lv.set i .null), q2 ∈ (i, v) :: (mj_al as 0 lv).filter (fun q => !(q.1 == i) && !(q.1 + 1 == i && q.2.category == 2)) := by
    intro v _ q2 hq2
    have h9 := mj_store1 (as := as) (lv := lv) (i := i) (v := .null) hc q2 hq2
    rcases List.mem_cons.mp h9 with h9 | h9
    · obtain ⟨j9, w, g1, g2, g3⟩ := (mj_al_mem _ _ _).mp hq2
      rw [Nat.zero_add] at g3
      rw [h9] at g3
      have e9 := congrArg Prod.fst g3
      dsimp only at e9
      subst e9
      rw [List.getElem?_set] at g1
      rw [if_pos rfl] at g1
      split at g1
      · cases g1; exact absurd rfl g2
      · cases g1
    · exact List.mem_cons_of_mem _ h9
  rcases hds with ⟨hd, rfl⟩ | ⟨j, hd, hj, rfl⟩
  · exact lv_astore x1 x2 hd s4 hi rfl (fun ls2 hls => kk ls2 (mj_has_sub hls (hsub _ rfl)))
  · subst hj
    exact lv_astore_n x1 x2 hd rfl s4 hi rfl (fun ls2 hls => kk ls2 (mj_has_sub hls (hsub _ rfl)))
end MJ3
