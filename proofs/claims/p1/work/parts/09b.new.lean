/-! NEW CELLS with budgets, throws, links of nest mates' fields -/
section MJ6
variable {M : mj_M} {d mc ms mcT msT idx : Nat} {Q : mj_Q} {pc q : Nat} {lv st : List Value} {n : Nat} {K : Nat → mj_K} {f : Nat → Nat → Int32} {g : Nat → Nat → Option Nat}
theorem mj_newB {ci : Nat} (hd : decode M.2.1 pc = .ok (.new idx, 3)) (hci : ci < 10) (hcl : Cond.classLink M.2.2.2.2.1 idx (mT_C ci) ∈ mj_TW) (hin : Cond.instantiable (mT_C ci) (mT_N ci) ∈ mj_TW ∧ Cond.initialized (mT_C ci) ∈ mj_TW) (hq : pc + 3 = q) (hmc : 1 + mc = mcT) (hms : mT_N ci + ms = msT)
    (k : mj_W M d mc ms Q q lv (.ref n :: st) (n + 1, mj_row K n (2, ci, 0), mj_row f n (fun _ => 0), mj_row g n (fun _ => none))) : mj_W M d mcT msT Q pc lv st (n, K, f, g) := by
  subst hmc; subst hms; exact mj_new hd hci hcl hin hq k
theorem mj_newaB {x : Int32} {L : Nat} (hd : decode M.2.1 pc = .ok (.newarray .int, 2)) (hx : ¬ x < 0) (hL : x.toNatClampNeg = L) (hsz : L ≤ 1000) (hq : pc + 2 = q) (hmc : 1 + mc = mcT) (hms : L + ms = msT)
    (k : mj_W M d mc ms Q q lv (.ref n :: st) (n + 1, mj_row K n (0, L, 0), mj_row f n (fun _ => 0), mj_row g n (fun _ => none))) : mj_W M d mcT msT Q pc lv (.int x :: st) (n, K, f, g) := by
  subst hmc; subst hms; exact mj_newa hd aw_int hx hL hsz hq k
theorem mj_newqB {x : Int32} {L ci : Nat} (hd : decode M.2.1 pc = .ok (.anewarray idx, 3)) (hcl : Cond.classLink M.2.2.2.2.1 idx (mT_C ci) ∈ mj_TW) (hao : ∀ s, mj_XW s → va_AO (mT_C ci) s) (hx : ¬ x < 0) (hL : x.toNatClampNeg = L) (hsz : L ≤ 1000) (hq : pc + 3 = q) (hmc : 1 + mc = mcT) (hms : L + ms = msT)
    (k : mj_W M d mc ms Q q lv (.ref n :: st) (n + 1, mj_row K n (1, L, ci), mj_row f n (fun _ => 0), mj_row g n (fun _ => none))) : mj_W M d mcT msT Q pc lv (.int x :: st) (n, K, f, g) := by
  subst hmc; subst hms; exact mj_newq hd hcl hao hx hL hsz hq k
theorem mj_newlB {x : Int32} (hd : decode M.2.1 pc = .ok (.newarray .long, 2)) (hx : x = 1) (hq : pc + 2 = q) (hmc : 1 + mc = mcT) (hms : 1 + ms = msT)
    (k : mj_W M d mc ms Q q lv (.ref n :: st) (n + 1, mj_row K n (4, 1, 0), mj_row f n (fun _ => 0), mj_row g n (fun _ => none))) : mj_W M d mcT msT Q pc lv (.int x :: st) (n, K, f, g) := by
  subst hmc; subst hms; exact mj_newl hd aw_long hx hq k
theorem mj_aastn {a L ci r y i : Nat} (hd : decode M.2.1 pc = .ok (.aastore, 1)) (hq : pc + 1 = q) (hK : K a = (1, L, ci)) (hi : i < L ∧ L ≤ 1000) (hr : K r = (2, ci, y)) (k : mj_W M d mc ms Q q lv st (n, K, f, mj_up g a i (some r))) : mj_W M d mc ms Q pc lv (.ref r :: .int (nI i) :: .ref a :: st) (n, K, f, g) :=
  mj_aast hd hq hK (vp_in_nI hi.1 (by omega)) hr (by rw [nI_clamp (by omega)]; exact k)
end MJ6
def mj_old (n : Nat) (K K1 : Nat → mj_K) (f f1 : Nat → Nat → Int32) (g g1 : Nat → Nat → Option Nat) : Prop := ∀ a, a < n → K1 a = K a ∧ f1 a = f a ∧ g1 a = g a
theorem mj_old.tr {n n2 : Nat} {K K1 K2 : Nat → mj_K} {f f1 f2 : Nat → Nat → Int32} {g g1 g2 : Nat → Nat → Option Nat} (h : mj_old n K K1 f f1 g g1) (h2 : mj_old n2 K1 K2 f1 f2 g1 g2) (hn : n ≤ n2) : mj_old n K K2 f f2 g g2 := fun a ha => ⟨(h2 a (by omega)).1.trans (h a ha).1, (h2 a (by omega)).2.1.trans (h a ha).2.1, (h2 a (by omega)).2.2.trans (h a ha).2.2⟩
theorem mj_old.rf {n : Nat} {K : Nat → mj_K} {f : Nat → Nat → Int32} {g : Nat → Nat → Option Nat} : mj_old n K K f f g g := fun _ _ => ⟨rfl, rfl, rfl⟩
theorem mj_old.new {n n0 : Nat} {K : Nat → mj_K} {f : Nat → Nat → Int32} {g : Nat → Nat → Option Nat} {kk : mj_K} {ff : Nat → Int32} {gg : Nat → Option Nat} (h : n0 ≤ n) : mj_old n0 K (mj_row K n kk) f (mj_row f n ff) g (mj_row g n gg) := fun a ha => ⟨mj_rown (by omega), mj_rown (by omega), mj_rown (by omega)⟩
theorem mj_old.putr {n a k : Nat} {v : Option Nat} {K : Nat → mj_K} {f : Nat → Nat → Int32} {g : Nat → Nat → Option Nat} (h : n ≤ a) : mj_old n K K f f g (mj_up g a k v) := fun b hb => ⟨rfl, rfl, mj_upr (by omega)⟩
theorem mj_old.putf {n a k : Nat} {v : Int32} {K : Nat → mj_K} {f : Nat → Nat → Int32} {g : Nat → Nat → Option Nat} (h : n ≤ a) : mj_old n K K f (mj_up f a k v) g g := fun b hb => ⟨rfl, mj_upr (by omega), rfl⟩
theorem mj_old.less {n n2 : Nat} {K K1 : Nat → mj_K} {f f1 : Nat → Nat → Int32} {g g1 : Nat → Nat → Option Nat} (h : mj_old n K K1 f f1 g g1) (hn : n2 ≤ n) : mj_old n2 K K1 f f1 g g1 := fun a ha => h a (by omega)
theorem mj_rc2 {k : mj_K} {C : String} {ci x : Nat} (h : k = (2, ci, x)) (hC : mT_C ci = C) : mj_rc k C := ⟨by rw [h], by rw [h]; exact hC⟩
theorem mj_throwW {M : mj_M} {d mc ms : Nat} {Q : mj_Q} {pc : Nat} {lv st : List Value} {ik is ic nx : Nat} {text : String} (hM : M.2.2.2.2.2.2 = []) (d0 : decode M.2.1 pc = .ok (.new ik, 3)) (d3 : decode M.2.1 (pc + 3) = .ok (.dup, 1)) (d4 : decode M.2.1 (pc + 4) = .ok (.ldc_w is, 3)) (d6 : decode M.2.1 (pc + 7) = .ok (.invokespecial ic, 3)) (d9 : decode M.2.1 (pc + 10) = .ok (.athrow, 1))
    (hfit : Bundle.fit (mj_xn nx) = true) (hk : Cond.classLink M.2.2.2.2.1 ik (mj_xn nx) ∈ mj_TW) (hini : Cond.initialized (mj_xn nx) ∈ mj_TW) (hstr : ∀ s, mj_XW s → ∃ sa, vk_R M.2.2.2.2.1 is text sa s)
    (hat : ∀ (s : State) (args : Array Value), (∀ w ∈ mj_TW, w.before args s = true) → mj_XW s → ∀ w ∈ vx_atS M.2.2.2.2.1 ic (mj_xn nx) ["java/lang/RuntimeException", "java/lang/Exception"], w.before args s = true)
    (hgood : ∀ w ∈ Cond.classLink M.2.2.2.2.1 ik (mj_xn nx) :: Cond.initialized (mj_xn nx) :: vx_atS M.2.2.2.2.1 ic (mj_xn nx) ["java/lang/RuntimeException", "java/lang/Exception"], vx_ot w = true)
    (hd : 6 ≤ d) (hcat : (st.map fun v => v.category).sum ≤ 8) {h : mj_H} (hq : Q.2 nx h) : mj_W M d (1 + mc) (6 + ms) Q pc lv st h := by
  intro p l e R s m args below meth c D b e0 B0 MC MS as0 QQ X E as H locs ls cells slots S
  obtain ⟨s1, s2, s3, s4, s5, s6, s7, s8⟩ := id S
  obtain ⟨x1, x2, x3, x4, x5, x6, x7, x8, x9, x10, x11, x12, x13, x14, x15, x16, x17, x18⟩ := id X
  obtain ⟨sa, hsa⟩ := hstr s x6
  have htab : c.exceptionTable.toList = [] := by
    rw [hM] at x18
    exact List.map_eq_nil_iff.mp x18
  have k := vx_throwSW (p := p) (l := l) (e := e) (R := R) (s := s) (m := m) (args := args) (below := below) (meth := meth) (c := c) (H := H) (locs := locs) (cells := cells) (slots := slots) (ls := ls) (rest := st.map (mj_t as)) (free := fun q => B0 ≤ q) (Qc := fun _ _ _ _ => False) (XC := mj_XC D b e0 B0 as0 Q.2) (mc := MC) (ms := MS) (cc := M.2.1) (pc := pc) (A := fun q => B0 ≤ q) (text := text) (names := ["java/lang/RuntimeException", "java/lang/Exception"])
    x1 x2 x17 x4 hfit (by decide +kernel) (x5 _ hk) (x5 _ hini) hsa (hat s args x5 x6) hgood x16.1 x16.2.1 s2 (s4.1.trans x3.symm) d0 d3 d4 d6 d9 (by rw [htab]; intro x hx; cases hx)
    (by show 2 + 3 < R.frames; omega) (by rw [mj_cats]; show _ + (13 * (2 + 1) + 43) ≤ R.locals; omega) (by omega) (by omega) x8
    (fun t hal hsz hold => ⟨⟨nx, as, h, rfl, hq, s3, by
      obtain ⟨ws, tys, h1, h2, h3, h4, h5, h6, h7, h8, h9⟩ := s1
      exact ⟨ws, tys, h1, h2, h3, h4, va_K.moved hal h5, mj_P_old h6 hold, h7, h8, va_X.moved hal (va_X.kept h9 (hold _ (Nat.lt_of_lt_of_le x14 (Nat.le_trans x15 s2.1))))⟩⟩, Nat.le_trans s2.1 hsz, fun q hq1 hq2 => by rw [hold q (Nat.lt_of_lt_of_le hq1 s2.1)]; exact s2.2.1 q hq1 hq2⟩)
    s2.2.2 (by omega) (by omega)
  intro T hT XT
  obtain ⟨t, a1, b1⟩ := k T hT XT
  exact ⟨t, a1, E.2 t b1⟩

theorem fn_Jx35411_28 : mj_okFN RJx35411 28 1 2 "java/util/ArrayList" := ⟨by decide, by decide, fun _ z => mj_XW.nf_Jx35411_28 z⟩
theorem fn_X7_68 : mj_okFN RX7 68 8 0 "PistekeeperModel" := ⟨by decide, by decide, fun _ z => mj_XW.nf_X7_68 z⟩
theorem fn_X7_82 : mj_okFN RX7 82 8 1 "PistekeeperModel" := ⟨by decide, by decide, fun _ z => mj_XW.nf_X7_82 z⟩
theorem fn_X7_125 : mj_okFN RX7 125 8 2 "PistekeeperModel" := ⟨by decide, by decide, fun _ z => mj_XW.nf_X7_125 z⟩
theorem fn_X7_113 : mj_okFN RX7 113 8 3 "PistekeeperModel" := ⟨by decide, by decide, fun _ z => mj_XW.nf_X7_113 z⟩
theorem fn_X7_116 : mj_okFN RX7 116 8 4 "PistekeeperModel" := ⟨by decide, by decide, fun _ z => mj_XW.nf_X7_116 z⟩
theorem fn_X7_189 : mj_okFN RX7 189 8 5 "PistekeeperModel" := ⟨by decide, by decide, fun _ z => mj_XW.nf_X7_189 z⟩
theorem fn_X7_192 : mj_okFN RX7 192 8 6 "PistekeeperModel" := ⟨by decide, by decide, fun _ z => mj_XW.nf_X7_192 z⟩
theorem fn_X7_195 : mj_okFN RX7 195 8 7 "PistekeeperModel" := ⟨by decide, by decide, fun _ z => mj_XW.nf_X7_195 z⟩
theorem fn_X7_198 : mj_okFN RX7 198 8 8 "PistekeeperModel" := ⟨by decide, by decide, fun _ z => mj_XW.nf_X7_198 z⟩
theorem fn_X7_201 : mj_okFN RX7 201 8 9 "PistekeeperModel" := ⟨by decide, by decide, fun _ z => mj_XW.nf_X7_201 z⟩
theorem fn_X7_211 : mj_okFN RX7 211 8 10 "PistekeeperModel" := ⟨by decide, by decide, fun _ z => mj_XW.nf_X7_211 z⟩
theorem fn_X7_214 : mj_okFN RX7 214 8 11 "PistekeeperModel" := ⟨by decide, by decide, fun _ z => mj_XW.nf_X7_214 z⟩
