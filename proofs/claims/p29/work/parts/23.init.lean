/-! CONSTRUCTORS -/
section MJ8
variable {M K : mj_M} {d mc ms mc1 ms1 : Nat} {Q : mj_Q} {pc q : Nat} {lv st : List Value} {h : mj_H} {idx : Nat}
theorem mj_cI0m {a : Nat} {P : mj_H → Prop} (hd : decode M.2.1 pc = .ok (.invokespecial idx, 3)) (hln : Cond.methodLink M.2.2.2.2.1 idx K.1 ∈ mj_TW) (hok : mj_okI K 0) (hcat : (st.map fun v => v.category).sum ≤ 8) (hL : K.2.2.1 ≤ 21) (hq : pc + 3 = q) (hM : mj_C K d mc1 ms1 [.ref a] h (fun v h1 => v = none ∧ P h1)) (k : ∀ h1, P h1 → mj_W M (d + 1) mc ms Q q lv st h1) : mj_W M (d + 1) (mc1 + mc) (ms1 + ms) Q pc lv (.ref a :: st) h := by
  subst hq
  exact mj_callI [] hd hln hok rfl hcat hL hM (fun v h1 hq => by obtain ⟨rfl, hq⟩ := hq; exact k h1 hq)
theorem mj_cIN0m {a : Nat} {host : String} {P : mj_H → Prop} (hd : decode M.2.1 pc = .ok (.invokespecial idx, 3)) (hln : ∀ s, mj_XW s → va_Nw (.methodLinkNest M.2.2.2.2.1 idx K.1 host) s) (hok : mj_okI K 0) (hcat : (st.map fun v => v.category).sum ≤ 8) (hL : K.2.2.1 ≤ 21) (hq : pc + 3 = q) (hM : mj_C K d mc1 ms1 [.ref a] h (fun v h1 => v = none ∧ P h1)) (k : ∀ h1, P h1 → mj_W M (d + 1) mc ms Q q lv st h1) : mj_W M (d + 1) (mc1 + mc) (ms1 + ms) Q pc lv (.ref a :: st) h := by
  subst hq
  exact mj_callIN [] hd hln hok rfl hcat hL hM (fun v h1 hq => by obtain ⟨rfl, hq⟩ := hq; exact k h1 hq)
end MJ8
def mj_old (n : Nat) (K K1 : Nat → mj_K) (f f1 : Nat → Nat → Int32) (g g1 : Nat → Nat → Option Nat) : Prop := ∀ a, a < n → K1 a = K a ∧ f1 a = f a ∧ g1 a = g a
theorem mj_old.tr {n n2 : Nat} {K K1 K2 : Nat → mj_K} {f f1 f2 : Nat → Nat → Int32} {g g1 g2 : Nat → Nat → Option Nat} (h : mj_old n K K1 f f1 g g1) (h2 : mj_old n2 K1 K2 f1 f2 g1 g2) (hn : n ≤ n2) : mj_old n K K2 f f2 g g2 := fun a ha => ⟨(h2 a (by omega)).1.trans (h a ha).1, (h2 a (by omega)).2.1.trans (h a ha).2.1, (h2 a (by omega)).2.2.trans (h a ha).2.2⟩
theorem mj_old.new {n n0 : Nat} {K : Nat → mj_K} {f : Nat → Nat → Int32} {g : Nat → Nat → Option Nat} {kk : mj_K} {ff : Nat → Int32} {gg : Nat → Option Nat} (h : n0 ≤ n) : mj_old n0 K (mj_row K n kk) f (mj_row f n ff) g (mj_row g n gg) := fun a ha => ⟨mj_rown (by omega), mj_rown (by omega), mj_rown (by omega)⟩
theorem mj_old.putr {n a k : Nat} {v : Option Nat} {K : Nat → mj_K} {f : Nat → Nat → Int32} {g : Nat → Nat → Option Nat} (h : n ≤ a) : mj_old n K K f f g (mj_up g a k v) := fun b hb => ⟨rfl, rfl, mj_upr (by omega)⟩
theorem mj_old.putf {n a k : Nat} {v : Int32} {K : Nat → mj_K} {f : Nat → Nat → Int32} {g : Nat → Nat → Option Nat} (h : n ≤ a) : mj_old n K K f (mj_up f a k v) g g := fun b hb => ⟨rfl, mj_upr (by omega), rfl⟩
theorem mj_old.less {n n2 : Nat} {K K1 : Nat → mj_K} {f f1 : Nat → Nat → Int32} {g g1 : Nat → Nat → Option Nat} (h : mj_old n K K1 f f1 g g1) (hn : n2 ≤ n) : mj_old n2 K K1 f f1 g g1 := fun a ha => h a (by omega)
def v0S : sV := (0, 0, 0, fun _ => 0, fun _ => 0, fun _ => 0)
def v0R : rV := (v0S, upd (fun _ => 0) 12 (-1))
def v0Mu : Nat → Int32 := upd (upd (upd (fun _ => 0) 6 500) 7 50) 8 100

set_option maxHeartbeats 4000000 in
set_option maxRecDepth 100000 in
theorem s_X0_init {d a : Nat} {h : mj_H} : mj_C m_X0_init (d + 1) 0 0 [.ref a] h (fun v h1 => v = none ∧ h1 = h) := by
  refine mj_entry (by refine ⟨by decide +kernel, by decide, rfl, Nat.le_of_ble_eq_true rfl⟩) ?_
  show mj_W _ _ _ _ _ 0 [.ref a] [] _
  refine mj_aload_n (i := 0) (q := 1) dX0_init_0 rfl rfl rfl ?_
  refine mj_objInit (q := 4) dX0_init_1 ln_X0_1 (Nat.le_of_ble_eq_true rfl) rfl ?_
  exact mj_return dX0_init_4 rfl ⟨rfl, rfl⟩
set_option maxHeartbeats 4000000 in
set_option maxRecDepth 100000 in
theorem s_X4_init {d a : Nat} {h : mj_H} : mj_C m_X4_init (d + 1) 0 0 [.ref a] h (fun v h1 => v = none ∧ h1 = h) := by
  refine mj_entry (by refine ⟨by decide +kernel, by decide, rfl, Nat.le_of_ble_eq_true rfl⟩) ?_
  show mj_W _ _ _ _ _ 0 [.ref a] [] _
  refine mj_aload_n (i := 0) (q := 1) dX4_init_0 rfl rfl rfl ?_
  refine mj_objInit (q := 4) dX4_init_1 ln_X4_1 (Nat.le_of_ble_eq_true rfl) rfl ?_
  exact mj_return dX4_init_4 rfl ⟨rfl, rfl⟩
set_option maxHeartbeats 4000000 in
set_option maxRecDepth 100000 in
theorem s_X3_init {d s : Nat} {K : Nat → mj_K} {f : Nat → Nat → Int32} {g : Nat → Nat → Option Nat} (hK : K s = (2, 3, 0)) (hf : f s = fun _ => 0) : mj_C m_X3_init (d + 1) (1 + (1 + (1 + 0))) (8 + (8 + (8 + 0))) [.ref s] (s + 1, K, f, g) (fun v h1 => v = none ∧ ∃ K1 f1 g1, h1 = (s + 4, K1, f1, g1) ∧ mj_old s K K1 f f1 g g1 ∧ LSn K1 g1 s ∧ SN f1 s v0S) := by
  refine mj_entry (by refine ⟨by decide +kernel, by decide, rfl, Nat.le_of_ble_eq_true rfl⟩) ?_
  show mj_W _ _ _ _ _ 0 [.ref s] [] _
  refine mj_aload_n (i := 0) (q := 1) dX3_init_0 rfl rfl rfl ?_
  refine mj_objInit (q := 4) dX3_init_1 ln_X3_3 (Nat.le_of_ble_eq_true rfl) rfl ?_
  refine mj_aload_n (i := 0) (q := 5) dX3_init_4 rfl rfl rfl ?_
  refine mj_num2 (v := 8) (q := 7) (by decide) dX3_init_5 rfl ?_
  refine mj_newa (L := 8) (q := 9) dX3_init_7 aw_int (by decide) (by decide) (by decide) rfl ?_
  have k0 : (mj_row K (s + 1) (0, 8, 0)) s = (2, 3, 0) := by rw [mj_rown (by omega)]; exact hK
  refine mj_putr (q := 12) dX3_init_9 fl_X3_9 rfl rfl k0 rfl rfl rfl (fun _ => rfl) (fun _ => rfl) ?_
  refine mj_aload_n (i := 0) (q := 13) dX3_init_12 rfl rfl rfl ?_
  refine mj_num2 (v := 8) (q := 15) (by decide) dX3_init_13 rfl ?_
  refine mj_newa (L := 8) (q := 17) dX3_init_15 aw_int (by decide) (by decide) (by decide) rfl ?_
  have k1 : (mj_row (mj_row K (s + 1) (0, 8, 0)) (s + 1 + 1) (0, 8, 0)) s = (2, 3, 0) := by rw [mj_rown (by omega)]; rw [mj_rown (by omega)]; exact hK
  refine mj_putr (q := 20) dX3_init_17 fl_X3_15 rfl rfl k1 rfl rfl rfl (fun _ => rfl) (fun _ => rfl) ?_
  refine mj_aload_n (i := 0) (q := 21) dX3_init_20 rfl rfl rfl ?_
  refine mj_num2 (v := 8) (q := 23) (by decide) dX3_init_21 rfl ?_
  refine mj_newa (L := 8) (q := 25) dX3_init_23 aw_int (by decide) (by decide) (by decide) rfl ?_
  have k2 : (mj_row (mj_row (mj_row K (s + 1) (0, 8, 0)) (s + 1 + 1) (0, 8, 0)) (s + 1 + 1 + 1) (0, 8, 0)) s = (2, 3, 0) := by rw [mj_rown (by omega)]; rw [mj_rown (by omega)]; rw [mj_rown (by omega)]; exact hK
  refine mj_putr (q := 28) dX3_init_25 fl_X3_18 rfl rfl k2 rfl rfl rfl (fun _ => rfl) (fun _ => rfl) ?_
  refine mj_return dX3_init_28 rfl ⟨rfl, _, _, _, rfl, ?_, ?_, ?_⟩
  · exact ((((((mj_old.new (by omega)).tr (mj_old.putr (Nat.le_refl s)) (Nat.le_refl _)).tr (mj_old.new (by omega)) (Nat.le_refl _)).tr (mj_old.putr (Nat.le_refl s)) (Nat.le_refl _)).tr (mj_old.new (by omega)) (Nat.le_refl _)).tr (mj_old.putr (Nat.le_refl s)) (Nat.le_refl _))
  · refine ⟨k2, ?_, ?_, ?_, ?_, ?_, ?_⟩ <;> simp [mj_row, mj_up, show ¬ s = s + 1 + 1 + 1 from by omega, show ¬ s = s + 1 + 1 from by omega]
  · refine ⟨by decide, ?_, ?_, ?_, ?_, ?_, ?_, Or.inl rfl, Or.inl rfl⟩ <;> simp [mj_row, v0S, hf, nI_0]
set_option maxHeartbeats 4000000 in
set_option maxRecDepth 100000 in
theorem s_X2_init {d r : Nat} {K : Nat → mj_K} {f : Nat → Nat → Int32} {g : Nat → Nat → Option Nat} (hK : K r = (2, 2, 0)) (hf : f r = fun _ => 0) : mj_C m_X2_init (d + 2) (1 + (1 + (1 + (1 + 0)) + 0)) (6 + (8 + (8 + (8 + 0)) + 0)) [.ref r] (r + 1, K, f, g) (fun v h1 => v = none ∧ ∃ K1 f1 g1, h1 = (r + 5, K1, f1, g1) ∧ mj_old r K K1 f f1 g g1 ∧ LRn K1 g1 r ∧ RN f1 r v0R) := by
  refine mj_entry (by refine ⟨by decide +kernel, by decide, rfl, Nat.le_of_ble_eq_true rfl⟩) ?_
  show mj_W _ _ _ _ _ 0 [.ref r] [] _
  refine mj_aload_n (i := 0) (q := 1) dX2_init_0 rfl rfl rfl ?_
  refine mj_objInit (q := 4) dX2_init_1 ln_X2_3 (Nat.le_of_ble_eq_true rfl) rfl ?_
  refine mj_aload_n (i := 0) (q := 5) dX2_init_4 rfl rfl rfl ?_
  refine mj_new (ci := 3) (q := 8) dX2_init_5 (by decide) cl_X2_9 in_X3 rfl ?_
  refine mj_dup (q := 9) rfl dX2_init_8 rfl ?_
  refine mj_cI0m (K := m_X3_init) (q := 12) dX2_init_9 ln_X2_11 ok_X3_init (Nat.le_of_ble_eq_true rfl) (by decide) rfl (s_X3_init (s := r + 1) mj_rowe mj_rowe) (fun h1 hq => ?_)
  obtain ⟨K1, f1, g1, rfl, hO, hL, hS⟩ := hq
  have k1 : K1 r = (2, 2, 0) := by rw [(hO r (by omega)).1, mj_rown (by omega)]; exact hK
  have z1 : f1 r = fun _ => 0 := by rw [(hO r (by omega)).2.1, mj_rown (by omega)]; exact hf
  refine mj_putr (q := 15) dX2_init_12 fl_X2_12 rfl rfl k1 rfl rfl rfl (fun _ => rfl) (fun _ => rfl) ?_
  refine mj_aload_n (i := 0) (q := 16) dX2_init_15 rfl rfl rfl ?_
  refine mj_num1 (v := (-1)) (q := 17) rfl dX2_init_16 rfl ?_
  refine mj_putf (q := 20) dX2_init_17 fl_X2_18 rfl rfl k1 rfl rfl rfl ?_
  refine mj_return dX2_init_20 rfl ⟨rfl, _, _, _, rfl, ?_, ?_, ?_⟩
  · exact ((((mj_old.new (by omega)).tr (hO.less (by omega)) (Nat.le_refl r)).tr (mj_old.putr (Nat.le_refl r)) (Nat.le_refl _)).tr (mj_old.putf (Nat.le_refl r)) (Nat.le_refl _))
  · refine ⟨k1, by simp [mj_up], ?_⟩
    obtain ⟨q0, q1, q2, q3, q4, q5, q6⟩ := hL
    refine ⟨q0, q1, q2, q3, ?_, ?_, ?_⟩ <;> (rw [mj_upr (by omega)]; assumption)
  · refine ⟨hS.keep (lo := r) (hi := r + 1) (mj_Fr.up mj_Fr.rf (by omega) (by omega)) (by omega), fun k z2 z3 => ?_, Or.inl rfl, Or.inl rfl, Or.inl rfl⟩
    simp [mj_up, v0R, upd, z1]
