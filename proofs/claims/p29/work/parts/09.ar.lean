/-! CALLS by the number of arguments and the kind of answer; nothing is made in them -/
abbrev mj_Ci (K : mj_M) (d : Nat) (args : List Value) (h : mj_H) (P : Int32 → mj_H → Prop) : Prop := mj_C K d 0 0 args h (fun v h1 => ∃ r, v = some (.int r) ∧ P r h1)
abbrev mj_Cl (K : mj_M) (d : Nat) (args : List Value) (h : mj_H) (P : Int64 → mj_H → Prop) : Prop := mj_C K d 0 0 args h (fun v h1 => ∃ r, v = some (.long r) ∧ P r h1)
abbrev mj_Cd (K : mj_M) (d : Nat) (args : List Value) (h : mj_H) (P : UInt64 → mj_H → Prop) : Prop := mj_C K d 0 0 args h (fun v h1 => ∃ r, v = some (.double r) ∧ P r h1)
abbrev mj_Cv (K : mj_M) (d : Nat) (args : List Value) (h : mj_H) (P : mj_H → Prop) : Prop := mj_C K d 0 0 args h (fun v h1 => v = none ∧ P h1)
section MJ5
variable {M K : mj_M} {d mc ms : Nat} {Q : mj_Q} {pc q : Nat} {lv st : List Value} {h : mj_H} {idx : Nat}
theorem mj_top {x y : Int32} (e : x = y) (k : mj_W M d mc ms Q pc lv (.int y :: st) h) : mj_W M d mc ms Q pc lv (.int x :: st) h := by subst e; exact k
theorem mj_topl {x y : Int64} (e : x = y) (k : mj_W M d mc ms Q pc lv (.long y :: st) h) : mj_W M d mc ms Q pc lv (.long x :: st) h := by subst e; exact k
theorem mj_getfv {n : Nat} {K : Nat → mj_K} {f : Nat → Nat → Int32} {g : Nat → Nat → Option Nat} {a idx ci sl x : Nat} {v : Int32} (hd : decode M.2.1 pc = .ok (.getfield idx, 3)) (hF : mj_okF M.2.2.2.2.1 idx ci sl) (hr : mT_R ci sl = false) (hq : pc + 3 = q) (hK : K a = (2, ci, x)) (hv : f a sl = v)
    (k : mj_W M d mc ms Q q lv (.int v :: st) (n, K, f, g)) : mj_W M d mc ms Q pc lv (.ref a :: st) (n, K, f, g) := by subst hv; exact mj_getf hd hF hr hq hK k
theorem mj_cV0i {a ci x : Nat} {P : Int32 → mj_H → Prop} (hd : decode M.2.1 pc = .ok (.invokevirtual idx, 3)) (hln : Cond.methodLink M.2.2.2.2.1 idx K.1 ∈ mj_TW) (hok : mj_okV K 0) (hcat : (st.map fun v => v.category).sum ≤ 8) (hL : K.2.2.1 ≤ 21) (hK : h.2.1 a = (2, ci, x)) (hC : mT_C ci = K.1.cls) (hq : pc + 3 = q) (hM : mj_Ci K d [.ref a] h P) (k : ∀ r h1, P r h1 → mj_W M (d + 1) mc ms Q q lv (.int r :: st) h1) : mj_W M (d + 1) mc ms Q pc lv (.ref a :: st) h := by
  subst hq
  have e := mj_callV (mc := mc) (ms := ms) (mc1 := 0) (ms1 := 0) [] hd hln hok rfl hcat hL hK hC hM (fun v h1 hq => by obtain ⟨r, rfl, hq⟩ := hq; exact k r h1 hq)
  rw [Nat.zero_add, Nat.zero_add] at e
  exact e
theorem mj_cV0v {a ci x : Nat} {P : mj_H → Prop} (hd : decode M.2.1 pc = .ok (.invokevirtual idx, 3)) (hln : Cond.methodLink M.2.2.2.2.1 idx K.1 ∈ mj_TW) (hok : mj_okV K 0) (hcat : (st.map fun v => v.category).sum ≤ 8) (hL : K.2.2.1 ≤ 21) (hK : h.2.1 a = (2, ci, x)) (hC : mT_C ci = K.1.cls) (hq : pc + 3 = q) (hM : mj_Cv K d [.ref a] h P) (k : ∀ h1, P h1 → mj_W M (d + 1) mc ms Q q lv st h1) : mj_W M (d + 1) mc ms Q pc lv (.ref a :: st) h := by
  subst hq
  have e := mj_callV (mc := mc) (ms := ms) (mc1 := 0) (ms1 := 0) [] hd hln hok rfl hcat hL hK hC hM (fun v h1 hq => by obtain ⟨rfl, hq⟩ := hq; exact k h1 hq)
  rw [Nat.zero_add, Nat.zero_add] at e
  exact e
theorem mj_cV1i {a ci x : Nat} {v1 : Value} {P : Int32 → mj_H → Prop} (hd : decode M.2.1 pc = .ok (.invokevirtual idx, 3)) (hln : Cond.methodLink M.2.2.2.2.1 idx K.1 ∈ mj_TW) (hok : mj_okV K 1) (hcat : (st.map fun v => v.category).sum ≤ 8) (hL : K.2.2.1 ≤ 21) (hK : h.2.1 a = (2, ci, x)) (hC : mT_C ci = K.1.cls) (hq : pc + 3 = q) (hM : mj_Ci K d [.ref a, v1] h P) (k : ∀ r h1, P r h1 → mj_W M (d + 1) mc ms Q q lv (.int r :: st) h1) : mj_W M (d + 1) mc ms Q pc lv (v1 :: .ref a :: st) h := by
  subst hq
  have e := mj_callV (mc := mc) (ms := ms) (mc1 := 0) (ms1 := 0) [v1] hd hln hok rfl hcat hL hK hC hM (fun v h1 hq => by obtain ⟨r, rfl, hq⟩ := hq; exact k r h1 hq)
  rw [Nat.zero_add, Nat.zero_add] at e
  exact e
theorem mj_cV1v {a ci x : Nat} {v1 : Value} {P : mj_H → Prop} (hd : decode M.2.1 pc = .ok (.invokevirtual idx, 3)) (hln : Cond.methodLink M.2.2.2.2.1 idx K.1 ∈ mj_TW) (hok : mj_okV K 1) (hcat : (st.map fun v => v.category).sum ≤ 8) (hL : K.2.2.1 ≤ 21) (hK : h.2.1 a = (2, ci, x)) (hC : mT_C ci = K.1.cls) (hq : pc + 3 = q) (hM : mj_Cv K d [.ref a, v1] h P) (k : ∀ h1, P h1 → mj_W M (d + 1) mc ms Q q lv st h1) : mj_W M (d + 1) mc ms Q pc lv (v1 :: .ref a :: st) h := by
  subst hq
  have e := mj_callV (mc := mc) (ms := ms) (mc1 := 0) (ms1 := 0) [v1] hd hln hok rfl hcat hL hK hC hM (fun v h1 hq => by obtain ⟨rfl, hq⟩ := hq; exact k h1 hq)
  rw [Nat.zero_add, Nat.zero_add] at e
  exact e
theorem mj_cV2i {a ci x : Nat} {v1 v2 : Value} {P : Int32 → mj_H → Prop} (hd : decode M.2.1 pc = .ok (.invokevirtual idx, 3)) (hln : Cond.methodLink M.2.2.2.2.1 idx K.1 ∈ mj_TW) (hok : mj_okV K 2) (hcat : (st.map fun v => v.category).sum ≤ 8) (hL : K.2.2.1 ≤ 21) (hK : h.2.1 a = (2, ci, x)) (hC : mT_C ci = K.1.cls) (hq : pc + 3 = q) (hM : mj_Ci K d [.ref a, v1, v2] h P) (k : ∀ r h1, P r h1 → mj_W M (d + 1) mc ms Q q lv (.int r :: st) h1) : mj_W M (d + 1) mc ms Q pc lv (v2 :: v1 :: .ref a :: st) h := by
  subst hq
  have e := mj_callV (mc := mc) (ms := ms) (mc1 := 0) (ms1 := 0) [v1, v2] hd hln hok rfl hcat hL hK hC hM (fun v h1 hq => by obtain ⟨r, rfl, hq⟩ := hq; exact k r h1 hq)
  rw [Nat.zero_add, Nat.zero_add] at e
  exact e
theorem mj_cV2v {a ci x : Nat} {v1 v2 : Value} {P : mj_H → Prop} (hd : decode M.2.1 pc = .ok (.invokevirtual idx, 3)) (hln : Cond.methodLink M.2.2.2.2.1 idx K.1 ∈ mj_TW) (hok : mj_okV K 2) (hcat : (st.map fun v => v.category).sum ≤ 8) (hL : K.2.2.1 ≤ 21) (hK : h.2.1 a = (2, ci, x)) (hC : mT_C ci = K.1.cls) (hq : pc + 3 = q) (hM : mj_Cv K d [.ref a, v1, v2] h P) (k : ∀ h1, P h1 → mj_W M (d + 1) mc ms Q q lv st h1) : mj_W M (d + 1) mc ms Q pc lv (v2 :: v1 :: .ref a :: st) h := by
  subst hq
  have e := mj_callV (mc := mc) (ms := ms) (mc1 := 0) (ms1 := 0) [v1, v2] hd hln hok rfl hcat hL hK hC hM (fun v h1 hq => by obtain ⟨rfl, hq⟩ := hq; exact k h1 hq)
  rw [Nat.zero_add, Nat.zero_add] at e
  exact e
theorem mj_cV3i {a ci x : Nat} {v1 v2 v3 : Value} {P : Int32 → mj_H → Prop} (hd : decode M.2.1 pc = .ok (.invokevirtual idx, 3)) (hln : Cond.methodLink M.2.2.2.2.1 idx K.1 ∈ mj_TW) (hok : mj_okV K 3) (hcat : (st.map fun v => v.category).sum ≤ 8) (hL : K.2.2.1 ≤ 21) (hK : h.2.1 a = (2, ci, x)) (hC : mT_C ci = K.1.cls) (hq : pc + 3 = q) (hM : mj_Ci K d [.ref a, v1, v2, v3] h P) (k : ∀ r h1, P r h1 → mj_W M (d + 1) mc ms Q q lv (.int r :: st) h1) : mj_W M (d + 1) mc ms Q pc lv (v3 :: v2 :: v1 :: .ref a :: st) h := by
  subst hq
  have e := mj_callV (mc := mc) (ms := ms) (mc1 := 0) (ms1 := 0) [v1, v2, v3] hd hln hok rfl hcat hL hK hC hM (fun v h1 hq => by obtain ⟨r, rfl, hq⟩ := hq; exact k r h1 hq)
  rw [Nat.zero_add, Nat.zero_add] at e
  exact e
theorem mj_cV3v {a ci x : Nat} {v1 v2 v3 : Value} {P : mj_H → Prop} (hd : decode M.2.1 pc = .ok (.invokevirtual idx, 3)) (hln : Cond.methodLink M.2.2.2.2.1 idx K.1 ∈ mj_TW) (hok : mj_okV K 3) (hcat : (st.map fun v => v.category).sum ≤ 8) (hL : K.2.2.1 ≤ 21) (hK : h.2.1 a = (2, ci, x)) (hC : mT_C ci = K.1.cls) (hq : pc + 3 = q) (hM : mj_Cv K d [.ref a, v1, v2, v3] h P) (k : ∀ h1, P h1 → mj_W M (d + 1) mc ms Q q lv st h1) : mj_W M (d + 1) mc ms Q pc lv (v3 :: v2 :: v1 :: .ref a :: st) h := by
  subst hq
  have e := mj_callV (mc := mc) (ms := ms) (mc1 := 0) (ms1 := 0) [v1, v2, v3] hd hln hok rfl hcat hL hK hC hM (fun v h1 hq => by obtain ⟨rfl, hq⟩ := hq; exact k h1 hq)
  rw [Nat.zero_add, Nat.zero_add] at e
  exact e
theorem mj_cV4i {a ci x : Nat} {v1 v2 v3 v4 : Value} {P : Int32 → mj_H → Prop} (hd : decode M.2.1 pc = .ok (.invokevirtual idx, 3)) (hln : Cond.methodLink M.2.2.2.2.1 idx K.1 ∈ mj_TW) (hok : mj_okV K 4) (hcat : (st.map fun v => v.category).sum ≤ 8) (hL : K.2.2.1 ≤ 21) (hK : h.2.1 a = (2, ci, x)) (hC : mT_C ci = K.1.cls) (hq : pc + 3 = q) (hM : mj_Ci K d [.ref a, v1, v2, v3, v4] h P) (k : ∀ r h1, P r h1 → mj_W M (d + 1) mc ms Q q lv (.int r :: st) h1) : mj_W M (d + 1) mc ms Q pc lv (v4 :: v3 :: v2 :: v1 :: .ref a :: st) h := by
  subst hq
  have e := mj_callV (mc := mc) (ms := ms) (mc1 := 0) (ms1 := 0) [v1, v2, v3, v4] hd hln hok rfl hcat hL hK hC hM (fun v h1 hq => by obtain ⟨r, rfl, hq⟩ := hq; exact k r h1 hq)
  rw [Nat.zero_add, Nat.zero_add] at e
  exact e
theorem mj_cV4v {a ci x : Nat} {v1 v2 v3 v4 : Value} {P : mj_H → Prop} (hd : decode M.2.1 pc = .ok (.invokevirtual idx, 3)) (hln : Cond.methodLink M.2.2.2.2.1 idx K.1 ∈ mj_TW) (hok : mj_okV K 4) (hcat : (st.map fun v => v.category).sum ≤ 8) (hL : K.2.2.1 ≤ 21) (hK : h.2.1 a = (2, ci, x)) (hC : mT_C ci = K.1.cls) (hq : pc + 3 = q) (hM : mj_Cv K d [.ref a, v1, v2, v3, v4] h P) (k : ∀ h1, P h1 → mj_W M (d + 1) mc ms Q q lv st h1) : mj_W M (d + 1) mc ms Q pc lv (v4 :: v3 :: v2 :: v1 :: .ref a :: st) h := by
  subst hq
  have e := mj_callV (mc := mc) (ms := ms) (mc1 := 0) (ms1 := 0) [v1, v2, v3, v4] hd hln hok rfl hcat hL hK hC hM (fun v h1 hq => by obtain ⟨rfl, hq⟩ := hq; exact k h1 hq)
  rw [Nat.zero_add, Nat.zero_add] at e
  exact e
theorem mj_cV5i {a ci x : Nat} {v1 v2 v3 v4 v5 : Value} {P : Int32 → mj_H → Prop} (hd : decode M.2.1 pc = .ok (.invokevirtual idx, 3)) (hln : Cond.methodLink M.2.2.2.2.1 idx K.1 ∈ mj_TW) (hok : mj_okV K 5) (hcat : (st.map fun v => v.category).sum ≤ 8) (hL : K.2.2.1 ≤ 21) (hK : h.2.1 a = (2, ci, x)) (hC : mT_C ci = K.1.cls) (hq : pc + 3 = q) (hM : mj_Ci K d [.ref a, v1, v2, v3, v4, v5] h P) (k : ∀ r h1, P r h1 → mj_W M (d + 1) mc ms Q q lv (.int r :: st) h1) : mj_W M (d + 1) mc ms Q pc lv (v5 :: v4 :: v3 :: v2 :: v1 :: .ref a :: st) h := by
  subst hq
  have e := mj_callV (mc := mc) (ms := ms) (mc1 := 0) (ms1 := 0) [v1, v2, v3, v4, v5] hd hln hok rfl hcat hL hK hC hM (fun v h1 hq => by obtain ⟨r, rfl, hq⟩ := hq; exact k r h1 hq)
  rw [Nat.zero_add, Nat.zero_add] at e
  exact e
theorem mj_cV5v {a ci x : Nat} {v1 v2 v3 v4 v5 : Value} {P : mj_H → Prop} (hd : decode M.2.1 pc = .ok (.invokevirtual idx, 3)) (hln : Cond.methodLink M.2.2.2.2.1 idx K.1 ∈ mj_TW) (hok : mj_okV K 5) (hcat : (st.map fun v => v.category).sum ≤ 8) (hL : K.2.2.1 ≤ 21) (hK : h.2.1 a = (2, ci, x)) (hC : mT_C ci = K.1.cls) (hq : pc + 3 = q) (hM : mj_Cv K d [.ref a, v1, v2, v3, v4, v5] h P) (k : ∀ h1, P h1 → mj_W M (d + 1) mc ms Q q lv st h1) : mj_W M (d + 1) mc ms Q pc lv (v5 :: v4 :: v3 :: v2 :: v1 :: .ref a :: st) h := by
  subst hq
  have e := mj_callV (mc := mc) (ms := ms) (mc1 := 0) (ms1 := 0) [v1, v2, v3, v4, v5] hd hln hok rfl hcat hL hK hC hM (fun v h1 hq => by obtain ⟨rfl, hq⟩ := hq; exact k h1 hq)
  rw [Nat.zero_add, Nat.zero_add] at e
  exact e
theorem mj_cV6i {a ci x : Nat} {v1 v2 v3 v4 v5 v6 : Value} {P : Int32 → mj_H → Prop} (hd : decode M.2.1 pc = .ok (.invokevirtual idx, 3)) (hln : Cond.methodLink M.2.2.2.2.1 idx K.1 ∈ mj_TW) (hok : mj_okV K 6) (hcat : (st.map fun v => v.category).sum ≤ 8) (hL : K.2.2.1 ≤ 21) (hK : h.2.1 a = (2, ci, x)) (hC : mT_C ci = K.1.cls) (hq : pc + 3 = q) (hM : mj_Ci K d [.ref a, v1, v2, v3, v4, v5, v6] h P) (k : ∀ r h1, P r h1 → mj_W M (d + 1) mc ms Q q lv (.int r :: st) h1) : mj_W M (d + 1) mc ms Q pc lv (v6 :: v5 :: v4 :: v3 :: v2 :: v1 :: .ref a :: st) h := by
  subst hq
  have e := mj_callV (mc := mc) (ms := ms) (mc1 := 0) (ms1 := 0) [v1, v2, v3, v4, v5, v6] hd hln hok rfl hcat hL hK hC hM (fun v h1 hq => by obtain ⟨r, rfl, hq⟩ := hq; exact k r h1 hq)
  rw [Nat.zero_add, Nat.zero_add] at e
  exact e
theorem mj_cV6v {a ci x : Nat} {v1 v2 v3 v4 v5 v6 : Value} {P : mj_H → Prop} (hd : decode M.2.1 pc = .ok (.invokevirtual idx, 3)) (hln : Cond.methodLink M.2.2.2.2.1 idx K.1 ∈ mj_TW) (hok : mj_okV K 6) (hcat : (st.map fun v => v.category).sum ≤ 8) (hL : K.2.2.1 ≤ 21) (hK : h.2.1 a = (2, ci, x)) (hC : mT_C ci = K.1.cls) (hq : pc + 3 = q) (hM : mj_Cv K d [.ref a, v1, v2, v3, v4, v5, v6] h P) (k : ∀ h1, P h1 → mj_W M (d + 1) mc ms Q q lv st h1) : mj_W M (d + 1) mc ms Q pc lv (v6 :: v5 :: v4 :: v3 :: v2 :: v1 :: .ref a :: st) h := by
  subst hq
  have e := mj_callV (mc := mc) (ms := ms) (mc1 := 0) (ms1 := 0) [v1, v2, v3, v4, v5, v6] hd hln hok rfl hcat hL hK hC hM (fun v h1 hq => by obtain ⟨rfl, hq⟩ := hq; exact k h1 hq)
  rw [Nat.zero_add, Nat.zero_add] at e
  exact e
theorem mj_cV0l {a ci x : Nat} {P : Int64 → mj_H → Prop} (hd : decode M.2.1 pc = .ok (.invokevirtual idx, 3)) (hln : Cond.methodLink M.2.2.2.2.1 idx K.1 ∈ mj_TW) (hok : mj_okV K 0) (hcat : (st.map fun v => v.category).sum ≤ 8) (hL : K.2.2.1 ≤ 21) (hK : h.2.1 a = (2, ci, x)) (hC : mT_C ci = K.1.cls) (hq : pc + 3 = q) (hM : mj_Cl K d [.ref a] h P) (k : ∀ r h1, P r h1 → mj_W M (d + 1) mc ms Q q lv (.long r :: st) h1) : mj_W M (d + 1) mc ms Q pc lv (.ref a :: st) h := by
  subst hq
  have e := mj_callV (mc := mc) (ms := ms) (mc1 := 0) (ms1 := 0) [] hd hln hok rfl hcat hL hK hC hM (fun v h1 hq => by obtain ⟨r, rfl, hq⟩ := hq; exact k r h1 hq)
  rw [Nat.zero_add, Nat.zero_add] at e
  exact e
theorem mj_cV0d {a ci x : Nat} {P : UInt64 → mj_H → Prop} (hd : decode M.2.1 pc = .ok (.invokevirtual idx, 3)) (hln : Cond.methodLink M.2.2.2.2.1 idx K.1 ∈ mj_TW) (hok : mj_okV K 0) (hcat : (st.map fun v => v.category).sum ≤ 8) (hL : K.2.2.1 ≤ 21) (hK : h.2.1 a = (2, ci, x)) (hC : mT_C ci = K.1.cls) (hq : pc + 3 = q) (hM : mj_Cd K d [.ref a] h P) (k : ∀ r h1, P r h1 → mj_W M (d + 1) mc ms Q q lv (.double r :: st) h1) : mj_W M (d + 1) mc ms Q pc lv (.ref a :: st) h := by
  subst hq
  have e := mj_callV (mc := mc) (ms := ms) (mc1 := 0) (ms1 := 0) [] hd hln hok rfl hcat hL hK hC hM (fun v h1 hq => by obtain ⟨r, rfl, hq⟩ := hq; exact k r h1 hq)
  rw [Nat.zero_add, Nat.zero_add] at e
  exact e
theorem mj_cV1l {a ci x : Nat} {v1 : Value} {P : Int64 → mj_H → Prop} (hd : decode M.2.1 pc = .ok (.invokevirtual idx, 3)) (hln : Cond.methodLink M.2.2.2.2.1 idx K.1 ∈ mj_TW) (hok : mj_okV K 1) (hcat : (st.map fun v => v.category).sum ≤ 8) (hL : K.2.2.1 ≤ 21) (hK : h.2.1 a = (2, ci, x)) (hC : mT_C ci = K.1.cls) (hq : pc + 3 = q) (hM : mj_Cl K d [.ref a, v1] h P) (k : ∀ r h1, P r h1 → mj_W M (d + 1) mc ms Q q lv (.long r :: st) h1) : mj_W M (d + 1) mc ms Q pc lv (v1 :: .ref a :: st) h := by
  subst hq
  have e := mj_callV (mc := mc) (ms := ms) (mc1 := 0) (ms1 := 0) [v1] hd hln hok rfl hcat hL hK hC hM (fun v h1 hq => by obtain ⟨r, rfl, hq⟩ := hq; exact k r h1 hq)
  rw [Nat.zero_add, Nat.zero_add] at e
  exact e
theorem mj_cV1d {a ci x : Nat} {v1 : Value} {P : UInt64 → mj_H → Prop} (hd : decode M.2.1 pc = .ok (.invokevirtual idx, 3)) (hln : Cond.methodLink M.2.2.2.2.1 idx K.1 ∈ mj_TW) (hok : mj_okV K 1) (hcat : (st.map fun v => v.category).sum ≤ 8) (hL : K.2.2.1 ≤ 21) (hK : h.2.1 a = (2, ci, x)) (hC : mT_C ci = K.1.cls) (hq : pc + 3 = q) (hM : mj_Cd K d [.ref a, v1] h P) (k : ∀ r h1, P r h1 → mj_W M (d + 1) mc ms Q q lv (.double r :: st) h1) : mj_W M (d + 1) mc ms Q pc lv (v1 :: .ref a :: st) h := by
  subst hq
  have e := mj_callV (mc := mc) (ms := ms) (mc1 := 0) (ms1 := 0) [v1] hd hln hok rfl hcat hL hK hC hM (fun v h1 hq => by obtain ⟨r, rfl, hq⟩ := hq; exact k r h1 hq)
  rw [Nat.zero_add, Nat.zero_add] at e
  exact e
theorem mj_cV2l {a ci x : Nat} {v1 v2 : Value} {P : Int64 → mj_H → Prop} (hd : decode M.2.1 pc = .ok (.invokevirtual idx, 3)) (hln : Cond.methodLink M.2.2.2.2.1 idx K.1 ∈ mj_TW) (hok : mj_okV K 2) (hcat : (st.map fun v => v.category).sum ≤ 8) (hL : K.2.2.1 ≤ 21) (hK : h.2.1 a = (2, ci, x)) (hC : mT_C ci = K.1.cls) (hq : pc + 3 = q) (hM : mj_Cl K d [.ref a, v1, v2] h P) (k : ∀ r h1, P r h1 → mj_W M (d + 1) mc ms Q q lv (.long r :: st) h1) : mj_W M (d + 1) mc ms Q pc lv (v2 :: v1 :: .ref a :: st) h := by
  subst hq
  have e := mj_callV (mc := mc) (ms := ms) (mc1 := 0) (ms1 := 0) [v1, v2] hd hln hok rfl hcat hL hK hC hM (fun v h1 hq => by obtain ⟨r, rfl, hq⟩ := hq; exact k r h1 hq)
  rw [Nat.zero_add, Nat.zero_add] at e
  exact e
theorem mj_cV2d {a ci x : Nat} {v1 v2 : Value} {P : UInt64 → mj_H → Prop} (hd : decode M.2.1 pc = .ok (.invokevirtual idx, 3)) (hln : Cond.methodLink M.2.2.2.2.1 idx K.1 ∈ mj_TW) (hok : mj_okV K 2) (hcat : (st.map fun v => v.category).sum ≤ 8) (hL : K.2.2.1 ≤ 21) (hK : h.2.1 a = (2, ci, x)) (hC : mT_C ci = K.1.cls) (hq : pc + 3 = q) (hM : mj_Cd K d [.ref a, v1, v2] h P) (k : ∀ r h1, P r h1 → mj_W M (d + 1) mc ms Q q lv (.double r :: st) h1) : mj_W M (d + 1) mc ms Q pc lv (v2 :: v1 :: .ref a :: st) h := by
  subst hq
  have e := mj_callV (mc := mc) (ms := ms) (mc1 := 0) (ms1 := 0) [v1, v2] hd hln hok rfl hcat hL hK hC hM (fun v h1 hq => by obtain ⟨r, rfl, hq⟩ := hq; exact k r h1 hq)
  rw [Nat.zero_add, Nat.zero_add] at e
  exact e
theorem mj_cS0i {P : Int32 → mj_H → Prop} (hd : decode M.2.1 pc = .ok (.invokestatic idx, 3)) (hln : Cond.methodLink M.2.2.2.2.1 idx K.1 ∈ mj_TW) (hok : mj_okS K 0) (hcat : (st.map fun v => v.category).sum ≤ 8) (hL : K.2.2.1 ≤ 21) (hq : pc + 3 = q) (hM : mj_Ci K d [] h P) (k : ∀ r h1, P r h1 → mj_W M (d + 1) mc ms Q q lv (.int r :: st) h1) : mj_W M (d + 1) mc ms Q pc lv (st) h := by
  subst hq
  have e := mj_callS (mc := mc) (ms := ms) (mc1 := 0) (ms1 := 0) [] hd hln hok rfl hcat hL hM (fun v h1 hq => by obtain ⟨r, rfl, hq⟩ := hq; exact k r h1 hq)
  rw [Nat.zero_add, Nat.zero_add] at e
  exact e
theorem mj_cS0v {P : mj_H → Prop} (hd : decode M.2.1 pc = .ok (.invokestatic idx, 3)) (hln : Cond.methodLink M.2.2.2.2.1 idx K.1 ∈ mj_TW) (hok : mj_okS K 0) (hcat : (st.map fun v => v.category).sum ≤ 8) (hL : K.2.2.1 ≤ 21) (hq : pc + 3 = q) (hM : mj_Cv K d [] h P) (k : ∀ h1, P h1 → mj_W M (d + 1) mc ms Q q lv st h1) : mj_W M (d + 1) mc ms Q pc lv (st) h := by
  subst hq
  have e := mj_callS (mc := mc) (ms := ms) (mc1 := 0) (ms1 := 0) [] hd hln hok rfl hcat hL hM (fun v h1 hq => by obtain ⟨rfl, hq⟩ := hq; exact k h1 hq)
  rw [Nat.zero_add, Nat.zero_add] at e
  exact e
theorem mj_cS1i {v1 : Value} {P : Int32 → mj_H → Prop} (hd : decode M.2.1 pc = .ok (.invokestatic idx, 3)) (hln : Cond.methodLink M.2.2.2.2.1 idx K.1 ∈ mj_TW) (hok : mj_okS K 1) (hcat : (st.map fun v => v.category).sum ≤ 8) (hL : K.2.2.1 ≤ 21) (hq : pc + 3 = q) (hM : mj_Ci K d [v1] h P) (k : ∀ r h1, P r h1 → mj_W M (d + 1) mc ms Q q lv (.int r :: st) h1) : mj_W M (d + 1) mc ms Q pc lv (v1 :: st) h := by
  subst hq
  have e := mj_callS (mc := mc) (ms := ms) (mc1 := 0) (ms1 := 0) [v1] hd hln hok rfl hcat hL hM (fun v h1 hq => by obtain ⟨r, rfl, hq⟩ := hq; exact k r h1 hq)
  rw [Nat.zero_add, Nat.zero_add] at e
  exact e
theorem mj_cS1v {v1 : Value} {P : mj_H → Prop} (hd : decode M.2.1 pc = .ok (.invokestatic idx, 3)) (hln : Cond.methodLink M.2.2.2.2.1 idx K.1 ∈ mj_TW) (hok : mj_okS K 1) (hcat : (st.map fun v => v.category).sum ≤ 8) (hL : K.2.2.1 ≤ 21) (hq : pc + 3 = q) (hM : mj_Cv K d [v1] h P) (k : ∀ h1, P h1 → mj_W M (d + 1) mc ms Q q lv st h1) : mj_W M (d + 1) mc ms Q pc lv (v1 :: st) h := by
  subst hq
  have e := mj_callS (mc := mc) (ms := ms) (mc1 := 0) (ms1 := 0) [v1] hd hln hok rfl hcat hL hM (fun v h1 hq => by obtain ⟨rfl, hq⟩ := hq; exact k h1 hq)
  rw [Nat.zero_add, Nat.zero_add] at e
  exact e
theorem mj_cS2i {v1 v2 : Value} {P : Int32 → mj_H → Prop} (hd : decode M.2.1 pc = .ok (.invokestatic idx, 3)) (hln : Cond.methodLink M.2.2.2.2.1 idx K.1 ∈ mj_TW) (hok : mj_okS K 2) (hcat : (st.map fun v => v.category).sum ≤ 8) (hL : K.2.2.1 ≤ 21) (hq : pc + 3 = q) (hM : mj_Ci K d [v1, v2] h P) (k : ∀ r h1, P r h1 → mj_W M (d + 1) mc ms Q q lv (.int r :: st) h1) : mj_W M (d + 1) mc ms Q pc lv (v2 :: v1 :: st) h := by
  subst hq
  have e := mj_callS (mc := mc) (ms := ms) (mc1 := 0) (ms1 := 0) [v1, v2] hd hln hok rfl hcat hL hM (fun v h1 hq => by obtain ⟨r, rfl, hq⟩ := hq; exact k r h1 hq)
  rw [Nat.zero_add, Nat.zero_add] at e
  exact e
theorem mj_cS2v {v1 v2 : Value} {P : mj_H → Prop} (hd : decode M.2.1 pc = .ok (.invokestatic idx, 3)) (hln : Cond.methodLink M.2.2.2.2.1 idx K.1 ∈ mj_TW) (hok : mj_okS K 2) (hcat : (st.map fun v => v.category).sum ≤ 8) (hL : K.2.2.1 ≤ 21) (hq : pc + 3 = q) (hM : mj_Cv K d [v1, v2] h P) (k : ∀ h1, P h1 → mj_W M (d + 1) mc ms Q q lv st h1) : mj_W M (d + 1) mc ms Q pc lv (v2 :: v1 :: st) h := by
  subst hq
  have e := mj_callS (mc := mc) (ms := ms) (mc1 := 0) (ms1 := 0) [v1, v2] hd hln hok rfl hcat hL hM (fun v h1 hq => by obtain ⟨rfl, hq⟩ := hq; exact k h1 hq)
  rw [Nat.zero_add, Nat.zero_add] at e
  exact e
theorem mj_cS3i {v1 v2 v3 : Value} {P : Int32 → mj_H → Prop} (hd : decode M.2.1 pc = .ok (.invokestatic idx, 3)) (hln : Cond.methodLink M.2.2.2.2.1 idx K.1 ∈ mj_TW) (hok : mj_okS K 3) (hcat : (st.map fun v => v.category).sum ≤ 8) (hL : K.2.2.1 ≤ 21) (hq : pc + 3 = q) (hM : mj_Ci K d [v1, v2, v3] h P) (k : ∀ r h1, P r h1 → mj_W M (d + 1) mc ms Q q lv (.int r :: st) h1) : mj_W M (d + 1) mc ms Q pc lv (v3 :: v2 :: v1 :: st) h := by
  subst hq
  have e := mj_callS (mc := mc) (ms := ms) (mc1 := 0) (ms1 := 0) [v1, v2, v3] hd hln hok rfl hcat hL hM (fun v h1 hq => by obtain ⟨r, rfl, hq⟩ := hq; exact k r h1 hq)
  rw [Nat.zero_add, Nat.zero_add] at e
  exact e
theorem mj_cS3v {v1 v2 v3 : Value} {P : mj_H → Prop} (hd : decode M.2.1 pc = .ok (.invokestatic idx, 3)) (hln : Cond.methodLink M.2.2.2.2.1 idx K.1 ∈ mj_TW) (hok : mj_okS K 3) (hcat : (st.map fun v => v.category).sum ≤ 8) (hL : K.2.2.1 ≤ 21) (hq : pc + 3 = q) (hM : mj_Cv K d [v1, v2, v3] h P) (k : ∀ h1, P h1 → mj_W M (d + 1) mc ms Q q lv st h1) : mj_W M (d + 1) mc ms Q pc lv (v3 :: v2 :: v1 :: st) h := by
  subst hq
  have e := mj_callS (mc := mc) (ms := ms) (mc1 := 0) (ms1 := 0) [v1, v2, v3] hd hln hok rfl hcat hL hM (fun v h1 hq => by obtain ⟨rfl, hq⟩ := hq; exact k h1 hq)
  rw [Nat.zero_add, Nat.zero_add] at e
  exact e
theorem mj_cS4i {v1 v2 v3 v4 : Value} {P : Int32 → mj_H → Prop} (hd : decode M.2.1 pc = .ok (.invokestatic idx, 3)) (hln : Cond.methodLink M.2.2.2.2.1 idx K.1 ∈ mj_TW) (hok : mj_okS K 4) (hcat : (st.map fun v => v.category).sum ≤ 8) (hL : K.2.2.1 ≤ 21) (hq : pc + 3 = q) (hM : mj_Ci K d [v1, v2, v3, v4] h P) (k : ∀ r h1, P r h1 → mj_W M (d + 1) mc ms Q q lv (.int r :: st) h1) : mj_W M (d + 1) mc ms Q pc lv (v4 :: v3 :: v2 :: v1 :: st) h := by
  subst hq
  have e := mj_callS (mc := mc) (ms := ms) (mc1 := 0) (ms1 := 0) [v1, v2, v3, v4] hd hln hok rfl hcat hL hM (fun v h1 hq => by obtain ⟨r, rfl, hq⟩ := hq; exact k r h1 hq)
  rw [Nat.zero_add, Nat.zero_add] at e
  exact e
theorem mj_cS4v {v1 v2 v3 v4 : Value} {P : mj_H → Prop} (hd : decode M.2.1 pc = .ok (.invokestatic idx, 3)) (hln : Cond.methodLink M.2.2.2.2.1 idx K.1 ∈ mj_TW) (hok : mj_okS K 4) (hcat : (st.map fun v => v.category).sum ≤ 8) (hL : K.2.2.1 ≤ 21) (hq : pc + 3 = q) (hM : mj_Cv K d [v1, v2, v3, v4] h P) (k : ∀ h1, P h1 → mj_W M (d + 1) mc ms Q q lv st h1) : mj_W M (d + 1) mc ms Q pc lv (v4 :: v3 :: v2 :: v1 :: st) h := by
  subst hq
  have e := mj_callS (mc := mc) (ms := ms) (mc1 := 0) (ms1 := 0) [v1, v2, v3, v4] hd hln hok rfl hcat hL hM (fun v h1 hq => by obtain ⟨rfl, hq⟩ := hq; exact k h1 hq)
  rw [Nat.zero_add, Nat.zero_add] at e
  exact e
theorem mj_cS5i {v1 v2 v3 v4 v5 : Value} {P : Int32 → mj_H → Prop} (hd : decode M.2.1 pc = .ok (.invokestatic idx, 3)) (hln : Cond.methodLink M.2.2.2.2.1 idx K.1 ∈ mj_TW) (hok : mj_okS K 5) (hcat : (st.map fun v => v.category).sum ≤ 8) (hL : K.2.2.1 ≤ 21) (hq : pc + 3 = q) (hM : mj_Ci K d [v1, v2, v3, v4, v5] h P) (k : ∀ r h1, P r h1 → mj_W M (d + 1) mc ms Q q lv (.int r :: st) h1) : mj_W M (d + 1) mc ms Q pc lv (v5 :: v4 :: v3 :: v2 :: v1 :: st) h := by
  subst hq
  have e := mj_callS (mc := mc) (ms := ms) (mc1 := 0) (ms1 := 0) [v1, v2, v3, v4, v5] hd hln hok rfl hcat hL hM (fun v h1 hq => by obtain ⟨r, rfl, hq⟩ := hq; exact k r h1 hq)
  rw [Nat.zero_add, Nat.zero_add] at e
  exact e
theorem mj_cS5v {v1 v2 v3 v4 v5 : Value} {P : mj_H → Prop} (hd : decode M.2.1 pc = .ok (.invokestatic idx, 3)) (hln : Cond.methodLink M.2.2.2.2.1 idx K.1 ∈ mj_TW) (hok : mj_okS K 5) (hcat : (st.map fun v => v.category).sum ≤ 8) (hL : K.2.2.1 ≤ 21) (hq : pc + 3 = q) (hM : mj_Cv K d [v1, v2, v3, v4, v5] h P) (k : ∀ h1, P h1 → mj_W M (d + 1) mc ms Q q lv st h1) : mj_W M (d + 1) mc ms Q pc lv (v5 :: v4 :: v3 :: v2 :: v1 :: st) h := by
  subst hq
  have e := mj_callS (mc := mc) (ms := ms) (mc1 := 0) (ms1 := 0) [v1, v2, v3, v4, v5] hd hln hok rfl hcat hL hM (fun v h1 hq => by obtain ⟨rfl, hq⟩ := hq; exact k h1 hq)
  rw [Nat.zero_add, Nat.zero_add] at e
  exact e
theorem mj_cS1d {v1 : Value} {P : UInt64 → mj_H → Prop} (hd : decode M.2.1 pc = .ok (.invokestatic idx, 3)) (hln : Cond.methodLink M.2.2.2.2.1 idx K.1 ∈ mj_TW) (hok : mj_okS K 1) (hcat : (st.map fun v => v.category).sum ≤ 8) (hL : K.2.2.1 ≤ 21) (hq : pc + 3 = q) (hM : mj_Cd K d [v1] h P) (k : ∀ r h1, P r h1 → mj_W M (d + 1) mc ms Q q lv (.double r :: st) h1) : mj_W M (d + 1) mc ms Q pc lv (v1 :: st) h := by
  subst hq
  have e := mj_callS (mc := mc) (ms := ms) (mc1 := 0) (ms1 := 0) [v1] hd hln hok rfl hcat hL hM (fun v h1 hq => by obtain ⟨r, rfl, hq⟩ := hq; exact k r h1 hq)
  rw [Nat.zero_add, Nat.zero_add] at e
  exact e
theorem mj_cSN1i {host : String} {v1 : Value} {P : Int32 → mj_H → Prop} (hd : decode M.2.1 pc = .ok (.invokestatic idx, 3)) (hln : ∀ s, mj_XW s → va_Nw (.methodLinkNest M.2.2.2.2.1 idx K.1 host) s) (hok : mj_okS K 1) (hcat : (st.map fun v => v.category).sum ≤ 8) (hL : K.2.2.1 ≤ 21) (hq : pc + 3 = q) (hM : mj_Ci K d [v1] h P) (k : ∀ r h1, P r h1 → mj_W M (d + 1) mc ms Q q lv (.int r :: st) h1) : mj_W M (d + 1) mc ms Q pc lv (v1 :: st) h := by
  subst hq
  have e := mj_callSN (mc := mc) (ms := ms) (mc1 := 0) (ms1 := 0) [v1] hd hln hok rfl hcat hL hM (fun v h1 hq => by obtain ⟨r, rfl, hq⟩ := hq; exact k r h1 hq)
  rw [Nat.zero_add, Nat.zero_add] at e
  exact e
theorem mj_mmin {x y : Int32} (hd : decode M.2.1 pc = .ok (.invokestatic idx, 3)) (hln : Cond.methodLink M.2.2.2.2.1 idx Lib.Math.min.name ∈ mj_TW) (hcat : (st.map fun v => v.category).sum ≤ 8) (hq : pc + 3 = q) (k : mj_W M (d + 1) mc ms Q q lv (.int (if y < x then y else x) :: st) h) : mj_W M (d + 1) mc ms Q pc lv (.int y :: .int x :: st) h := by
  subst hq
  intro p l e R s m args below meth c D b B0 MC MS as0 QQ X E as H locs ls cells slots S
  obtain ⟨s1, s2, s3, s4, s5, s6, s7, s8⟩ := S
  obtain ⟨x1, x2, x3, x4, x5, x6, x7, x8, x9, x10, x11, x12, x13, x14, x15⟩ := id X
  exact va_mmin x1 x2 (x3.trans s4.1.symm) x4 (x5 _ hln) (x5 _ (mj_in 427 (by decide +kernel) rfl)) (x5 _ (mj_in 13 (by decide +kernel) rfl)) (x5 _ (mj_in 428 (by decide +kernel) rfl)) (by omega) (by rw [mj_cats]; omega) (by omega) (by omega) hd
    (k p l e R s m args below meth c D b B0 MC MS as0 QQ X E as H locs ls cells slots ⟨s1, s2, s3, s4, s5, ⟨trivial, s6.2.2⟩, s7, s8⟩)
theorem mj_mmax {x y : Int32} (hd : decode M.2.1 pc = .ok (.invokestatic idx, 3)) (hln : Cond.methodLink M.2.2.2.2.1 idx Lib.Math.max.name ∈ mj_TW) (hcat : (st.map fun v => v.category).sum ≤ 8) (hq : pc + 3 = q) (k : mj_W M (d + 1) mc ms Q q lv (.int (if x < y then y else x) :: st) h) : mj_W M (d + 1) mc ms Q pc lv (.int y :: .int x :: st) h := by
  subst hq
  intro p l e R s m args below meth c D b B0 MC MS as0 QQ X E as H locs ls cells slots S
  obtain ⟨s1, s2, s3, s4, s5, s6, s7, s8⟩ := S
  obtain ⟨x1, x2, x3, x4, x5, x6, x7, x8, x9, x10, x11, x12, x13, x14, x15⟩ := id X
  exact va_mmax x1 x2 (x3.trans s4.1.symm) x4 (x5 _ hln) (x5 _ (mj_in 464 (by decide +kernel) rfl)) (x5 _ (mj_in 13 (by decide +kernel) rfl)) (x5 _ (mj_in 465 (by decide +kernel) rfl)) (by omega) (by rw [mj_cats]; omega) (by omega) (by omega) hd
    (k p l e R s m args below meth c D b B0 MC MS as0 QQ X E as H locs ls cells slots ⟨s1, s2, s3, s4, s5, ⟨trivial, s6.2.2⟩, s7, s8⟩)
theorem mj_mabs {x : Int32} (hd : decode M.2.1 pc = .ok (.invokestatic idx, 3)) (hln : Cond.methodLink M.2.2.2.2.1 idx Lib.Math.abs.name ∈ mj_TW) (hcat : (st.map fun v => v.category).sum ≤ 8) (hq : pc + 3 = q) (k : mj_W M (d + 1) mc ms Q q lv (.int (if 0 ≤ x then x else 0 - x) :: st) h) : mj_W M (d + 1) mc ms Q pc lv (.int x :: st) h := by
  subst hq
  intro p l e R s m args below meth c D b B0 MC MS as0 QQ X E as H locs ls cells slots S
  obtain ⟨s1, s2, s3, s4, s5, s6, s7, s8⟩ := S
  obtain ⟨x1, x2, x3, x4, x5, x6, x7, x8, x9, x10, x11, x12, x13, x14, x15⟩ := id X
  exact va_mabs x1 x2 (x3.trans s4.1.symm) x4 (x5 _ hln) (x5 _ (mj_in 772 (by decide +kernel) rfl)) (x5 _ (mj_in 13 (by decide +kernel) rfl)) (x5 _ (mj_in 773 (by decide +kernel) rfl)) (by omega) (by rw [mj_cats]; omega) (by omega) (by omega) hd
    (k p l e R s m args below meth c D b B0 MC MS as0 QQ X E as H locs ls cells slots ⟨s1, s2, s3, s4, s5, ⟨trivial, s6.2⟩, s7, s8⟩)
end MJ5
