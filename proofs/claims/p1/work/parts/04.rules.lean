/-! THE RULES: an instruction each, over the mini machine -/
theorem mj_rem (x y : Int32) : x - x / y * y = x % y := by
  apply Int32.toInt_inj.mp
  rw [Int32.toInt_sub, Int32.toInt_mul, Int32.toInt_div]
  rw [Int.bmod_mul_bmod, Int.sub_bmod_bmod]
  have h := Int.tmod_add_mul_tdiv x.toInt y.toInt
  have e : x.toInt - x.toInt.tdiv y.toInt * y.toInt = (x % y).toInt := by
    rw [Int32.toInt_mod, Int.mul_comm]
    omega
  rw [e, show (2 : Nat) ^ 32 = 4294967296 from rfl, Int32.toInt_bmod]
theorem mj_Hp.moved {D : va_G} {b e0 : Nat} {as : List Nat} {h : mj_H} {A : Nat → Prop} {u U : State} {H : Heap} (hvm : u.vm.Alike U.vm) (hH : mj_Hp D b e0 as h A u H) : mj_Hp D b e0 as h A U H := by
  obtain ⟨ws, tys, h1, h2, h3, h4, h5, h6, h7, h8, h9⟩ := hH
  exact ⟨ws, tys, h1, h2, h3, h4, va_K.moved hvm h5, h6, h7, h8, va_X.moved hvm h9⟩
section MJ1
variable {M : mj_M} {d mc ms : Nat} {Q : mj_Q} {pc q : Nat} {lv st : List Value} {h : mj_H}
theorem mj_pure {st1 st2 : List Value}
    (hs : ∀ (p : Program) (l : Launch) (e : Env) (R : Room) (s : State) (m : MethodId) (args : Array Value) (below : List Frame) (meth : Method) (c : Code) (H : Heap) (locs : List Loc) (cells slots : Nat) (QQ : State → Prop) (ls : Array Slot) (as : List Nat), p.tables.exec = Jvm.exec → c.code = M.2.1 →
      W p l e R s m args below meth c H locs cells slots QQ (F0 m q ls (st2.map (mj_t as))) → W p l e R s m args below meth c H locs cells slots QQ (F0 m pc ls (st1.map (mj_t as))))
    (ho : ∀ n, mj_oks n st1 → mj_oks n st2) (k : mj_W M d mc ms Q q lv st2 h) : mj_W M d mc ms Q pc lv st1 h := by
  intro p l e R s m args below meth c D b e0 B0 MC MS as0 QQ X E as H locs ls cells slots S
  obtain ⟨s1, s2, s3, s4, s5, s6, s7, s8⟩ := S
  exact hs p l e R s m args below meth c H locs cells slots QQ ls as X.1 X.2.1 (k p l e R s m args below meth c D b e0 B0 MC MS as0 QQ X E as H locs ls cells slots ⟨s1, s2, s3, s4, s5, ho _ s6, s7, s8⟩)
theorem mj_load {i : Nat} {v : Value} (hl : lv[i]? = some v) (hn : v ≠ .null)
    (hs : ∀ (p : Program) (l : Launch) (e : Env) (R : Room) (s : State) (m : MethodId) (args : Array Value) (below : List Frame) (meth : Method) (c : Code) (H : Heap) (locs : List Loc) (cells slots : Nat) (QQ : State → Prop) (ls : Array Slot) (as : List Nat), p.tables.exec = Jvm.exec → c.code = M.2.1 → ls[i]? = some (.val (mj_t as v)) →
      W p l e R s m args below meth c H locs cells slots QQ (F0 m q ls ((v :: st).map (mj_t as))) → W p l e R s m args below meth c H locs cells slots QQ (F0 m pc ls (st.map (mj_t as))))
    (k : mj_W M d mc ms Q q lv (v :: st) h) : mj_W M d mc ms Q pc lv st h := by
  intro p l e R s m args below meth c D b e0 B0 MC MS as0 QQ X E as H locs ls cells slots S
  obtain ⟨s1, s2, s3, s4, s5, s6, s7, s8⟩ := S
  exact hs p l e R s m args below meth c H locs cells slots QQ ls as X.1 X.2.1 (mj_at s4 hl hn) (k p l e R s m args below meth c D b e0 B0 MC MS as0 QQ X E as H locs ls cells slots ⟨s1, s2, s3, s4, s5, ⟨mj_oks_get s5 hl, s6⟩, s7, s8⟩)
theorem mj_iadd {x y : Int32} (hd : decode M.2.1 pc = .ok (.iadd, 1)) (hq : pc + 1 = q) (k : mj_W M d mc ms Q q lv (.int (x + y) :: st) h) : mj_W M d mc ms Q pc lv (.int y :: .int x :: st) h := by
  subst hq
  exact mj_pure (st1 := .int y :: .int x :: st) (st2 := .int (x + y) :: st) (fun _ _ _ _ _ _ _ _ _ _ _ _ _ _ _ _ _ hx hb => lv_iadd hx hb hd) (fun _ h => ⟨trivial, h.2.2⟩) k
theorem mj_isub {x y : Int32} (hd : decode M.2.1 pc = .ok (.isub, 1)) (hq : pc + 1 = q) (k : mj_W M d mc ms Q q lv (.int (x - y) :: st) h) : mj_W M d mc ms Q pc lv (.int y :: .int x :: st) h := by
  subst hq
  exact mj_pure (st1 := .int y :: .int x :: st) (st2 := .int (x - y) :: st) (fun _ _ _ _ _ _ _ _ _ _ _ _ _ _ _ _ _ hx hb => lv_isub hx hb hd) (fun _ h => ⟨trivial, h.2.2⟩) k
theorem mj_imul {x y : Int32} (hd : decode M.2.1 pc = .ok (.imul, 1)) (hq : pc + 1 = q) (k : mj_W M d mc ms Q q lv (.int (x * y) :: st) h) : mj_W M d mc ms Q pc lv (.int y :: .int x :: st) h := by
  subst hq
  exact mj_pure (st1 := .int y :: .int x :: st) (st2 := .int (x * y) :: st) (fun _ _ _ _ _ _ _ _ _ _ _ _ _ _ _ _ _ hx hb => lv_imul hx hb hd) (fun _ h => ⟨trivial, h.2.2⟩) k
theorem mj_iand {x y : Int32} (hd : decode M.2.1 pc = .ok (.iand, 1)) (hq : pc + 1 = q) (k : mj_W M d mc ms Q q lv (.int (x &&& y) :: st) h) : mj_W M d mc ms Q pc lv (.int y :: .int x :: st) h := by
  subst hq
  exact mj_pure (st1 := .int y :: .int x :: st) (st2 := .int (x &&& y) :: st) (fun _ _ _ _ _ _ _ _ _ _ _ _ _ _ _ _ _ hx hb => lv_iand hx hb hd) (fun _ h => ⟨trivial, h.2.2⟩) k
theorem mj_ior {x y : Int32} (hd : decode M.2.1 pc = .ok (.ior, 1)) (hq : pc + 1 = q) (k : mj_W M d mc ms Q q lv (.int (x ||| y) :: st) h) : mj_W M d mc ms Q pc lv (.int y :: .int x :: st) h := by
  subst hq
  exact mj_pure (st1 := .int y :: .int x :: st) (st2 := .int (x ||| y) :: st) (fun _ _ _ _ _ _ _ _ _ _ _ _ _ _ _ _ _ hx hb => lv_ior hx hb hd) (fun _ h => ⟨trivial, h.2.2⟩) k
theorem mj_ladd {x y : Int64} (hd : decode M.2.1 pc = .ok (.ladd, 1)) (hq : pc + 1 = q) (k : mj_W M d mc ms Q q lv (.long (x + y) :: st) h) : mj_W M d mc ms Q pc lv (.long y :: .long x :: st) h := by
  subst hq
  exact mj_pure (st1 := .long y :: .long x :: st) (st2 := .long (x + y) :: st) (fun _ _ _ _ _ _ _ _ _ _ _ _ _ _ _ _ _ hx hb => lv_ladd hx hb hd) (fun _ h => ⟨trivial, h.2.2⟩) k
theorem mj_lmul {x y : Int64} (hd : decode M.2.1 pc = .ok (.lmul, 1)) (hq : pc + 1 = q) (k : mj_W M d mc ms Q q lv (.long (x * y) :: st) h) : mj_W M d mc ms Q pc lv (.long y :: .long x :: st) h := by
  subst hq
  exact mj_pure (st1 := .long y :: .long x :: st) (st2 := .long (x * y) :: st) (fun _ _ _ _ _ _ _ _ _ _ _ _ _ _ _ _ _ hx hb => lv_lmul hx hb hd) (fun _ h => ⟨trivial, h.2.2⟩) k
theorem mj_land {x y : Int64} (hd : decode M.2.1 pc = .ok (.land, 1)) (hq : pc + 1 = q) (k : mj_W M d mc ms Q q lv (.long (x &&& y) :: st) h) : mj_W M d mc ms Q pc lv (.long y :: .long x :: st) h := by
  subst hq
  exact mj_pure (st1 := .long y :: .long x :: st) (st2 := .long (x &&& y) :: st) (fun _ _ _ _ _ _ _ _ _ _ _ _ _ _ _ _ _ hx hb => lv_land hx hb hd) (fun _ h => ⟨trivial, h.2.2⟩) k
theorem mj_idiv {x y : Int32} (hne : ¬ y = 0) (hd : decode M.2.1 pc = .ok (.idiv, 1)) (hq : pc + 1 = q) (k : mj_W M d mc ms Q q lv (.int (x / y) :: st) h) : mj_W M d mc ms Q pc lv (.int y :: .int x :: st) h := by
  subst hq
  exact mj_pure (st1 := .int y :: .int x :: st) (st2 := .int (x / y) :: st) (fun _ _ _ _ _ _ _ _ _ _ _ _ _ _ _ _ _ hx hb => lv_idiv hx hb hd hne) (fun _ h => ⟨trivial, h.2.2⟩) k
theorem mj_irem {x y : Int32} (hne : ¬ y = 0) (hd : decode M.2.1 pc = .ok (.irem, 1)) (hq : pc + 1 = q) (k : mj_W M d mc ms Q q lv (.int (x % y) :: st) h) : mj_W M d mc ms Q pc lv (.int y :: .int x :: st) h := by
  subst hq
  exact mj_pure (st1 := .int y :: .int x :: st) (st2 := .int (x % y) :: st) (fun _ _ _ _ _ _ _ _ _ _ _ _ _ _ _ _ _ hx hb => by rw [← mj_rem]; exact lv_irem hx hb hd hne) (fun _ h => ⟨trivial, h.2.2⟩) k
theorem mj_ishl {x y : Int32} (hd : decode M.2.1 pc = .ok (.ishl, 1)) (hq : pc + 1 = q) (k : mj_W M d mc ms Q q lv (.int (x <<< (y &&& 31)) :: st) h) : mj_W M d mc ms Q pc lv (.int y :: .int x :: st) h := by
  subst hq
  exact mj_pure (st1 := .int y :: .int x :: st) (st2 := .int (x <<< (y &&& 31)) :: st) (fun _ _ _ _ _ _ _ _ _ _ _ _ _ _ _ _ _ hx hb => lv_ishl hx hb hd) (fun _ h => ⟨trivial, h.2.2⟩) k
theorem mj_ishr {x y : Int32} (hd : decode M.2.1 pc = .ok (.ishr, 1)) (hq : pc + 1 = q) (k : mj_W M d mc ms Q q lv (.int (x >>> (y &&& 31)) :: st) h) : mj_W M d mc ms Q pc lv (.int y :: .int x :: st) h := by
  subst hq
  exact mj_pure (st1 := .int y :: .int x :: st) (st2 := .int (x >>> (y &&& 31)) :: st) (fun _ _ _ _ _ _ _ _ _ _ _ _ _ _ _ _ _ hx hb => lv_ishr hx hb hd) (fun _ h => ⟨trivial, h.2.2⟩) k
theorem mj_ineg {x : Int32} (hd : decode M.2.1 pc = .ok (.ineg, 1)) (hq : pc + 1 = q) (k : mj_W M d mc ms Q q lv (.int (0 - x) :: st) h) : mj_W M d mc ms Q pc lv (.int x :: st) h := by
  subst hq
  exact mj_pure (st1 := .int x :: st) (st2 := .int (0 - x) :: st) (fun _ _ _ _ _ _ _ _ _ _ _ _ _ _ _ _ _ hx hb => lv_ineg hx hb hd) (fun _ h => ⟨trivial, h.2⟩) k
theorem mj_i2l {x : Int32} (hd : decode M.2.1 pc = .ok (.i2l, 1)) (hq : pc + 1 = q) (k : mj_W M d mc ms Q q lv (.long x.toInt64 :: st) h) : mj_W M d mc ms Q pc lv (.int x :: st) h := by
  subst hq
  exact mj_pure (st1 := .int x :: st) (st2 := .long x.toInt64 :: st) (fun _ _ _ _ _ _ _ _ _ _ _ _ _ _ _ _ _ hx hb => lv_i2l hx hb hd rfl) (fun _ h => ⟨trivial, h.2⟩) k
theorem mj_i2d {x : Int32} (hd : decode M.2.1 pc = .ok (.i2d, 1)) (hq : pc + 1 = q) (k : mj_W M d mc ms Q q lv (.double (FP.i2d x) :: st) h) : mj_W M d mc ms Q pc lv (.int x :: st) h := by
  subst hq
  exact mj_pure (st1 := .int x :: st) (st2 := .double (FP.i2d x) :: st) (fun _ _ _ _ _ _ _ _ _ _ _ _ _ _ _ _ _ hx hb => lv_i2d hx hb hd) (fun _ h => ⟨trivial, h.2⟩) k
theorem mj_iconst {n : Int} (hd : decode M.2.1 pc = .ok (.iconst n, 1)) (hq : pc + 1 = q) (k : mj_W M d mc ms Q q lv (.int (Int32.ofInt n) :: st) h) : mj_W M d mc ms Q pc lv (st) h := by
  subst hq
  exact mj_pure (st1 := st) (st2 := .int (Int32.ofInt n) :: st) (fun _ _ _ _ _ _ _ _ _ _ _ _ _ _ _ _ _ hx hb => lv_iconst hx hb hd rfl) (fun _ h => ⟨trivial, h⟩) k
theorem mj_bipush {n : Int} (hd : decode M.2.1 pc = .ok (.bipush n, 2)) (hq : pc + 2 = q) (k : mj_W M d mc ms Q q lv (.int ((Int8.ofInt n).toInt32) :: st) h) : mj_W M d mc ms Q pc lv (st) h := by
  subst hq
  exact mj_pure (st1 := st) (st2 := .int ((Int8.ofInt n).toInt32) :: st) (fun _ _ _ _ _ _ _ _ _ _ _ _ _ _ _ _ _ hx hb => lv_bipush hx hb hd rfl) (fun _ h => ⟨trivial, h⟩) k
theorem mj_sipush {n : Int} (hd : decode M.2.1 pc = .ok (.sipush n, 3)) (hq : pc + 3 = q) (k : mj_W M d mc ms Q q lv (.int ((Int16.ofInt n).toInt32) :: st) h) : mj_W M d mc ms Q pc lv (st) h := by
  subst hq
  exact mj_pure (st1 := st) (st2 := .int ((Int16.ofInt n).toInt32) :: st) (fun _ _ _ _ _ _ _ _ _ _ _ _ _ _ _ _ _ hx hb => lv_sipush hx hb hd rfl) (fun _ h => ⟨trivial, h⟩) k
theorem mj_num1 {n : Int} {v : Int32} (hv : Int32.ofInt n = v) (hd : decode M.2.1 pc = .ok (.iconst n, 1)) (hq : pc + 1 = q) (k : mj_W M d mc ms Q q lv (.int v :: st) h) : mj_W M d mc ms Q pc lv (st) h := by
  subst hq
  exact mj_pure (st1 := st) (st2 := .int v :: st) (fun _ _ _ _ _ _ _ _ _ _ _ _ _ _ _ _ _ hx hb => lv_iconst hx hb hd hv) (fun _ h => ⟨trivial, h⟩) k
theorem mj_num2 {n : Int} {v : Int32} (hv : (Int8.ofInt n).toInt32 = v) (hd : decode M.2.1 pc = .ok (.bipush n, 2)) (hq : pc + 2 = q) (k : mj_W M d mc ms Q q lv (.int v :: st) h) : mj_W M d mc ms Q pc lv (st) h := by
  subst hq
  exact mj_pure (st1 := st) (st2 := .int v :: st) (fun _ _ _ _ _ _ _ _ _ _ _ _ _ _ _ _ _ hx hb => lv_bipush hx hb hd hv) (fun _ h => ⟨trivial, h⟩) k
theorem mj_num3 {n : Int} {v : Int32} (hv : (Int16.ofInt n).toInt32 = v) (hd : decode M.2.1 pc = .ok (.sipush n, 3)) (hq : pc + 3 = q) (k : mj_W M d mc ms Q q lv (.int v :: st) h) : mj_W M d mc ms Q pc lv (st) h := by
  subst hq
  exact mj_pure (st1 := st) (st2 := .int v :: st) (fun _ _ _ _ _ _ _ _ _ _ _ _ _ _ _ _ _ hx hb => lv_sipush hx hb hd hv) (fun _ h => ⟨trivial, h⟩) k
theorem mj_dconst0  (hd : decode M.2.1 pc = .ok (.dconst 0, 1)) (hq : pc + 1 = q) (k : mj_W M d mc ms Q q lv (.double FP.dconst0 :: st) h) : mj_W M d mc ms Q pc lv (st) h := by
  subst hq
  exact mj_pure (st1 := st) (st2 := .double FP.dconst0 :: st) (fun _ _ _ _ _ _ _ _ _ _ _ _ _ _ _ _ _ hx hb => lv_dconst0 hx hb hd) (fun _ h => ⟨trivial, h⟩) k
theorem mj_dup {v : Value} (hc : v.category = 1) (hd : decode M.2.1 pc = .ok (.dup, 1)) (hq : pc + 1 = q) (k : mj_W M d mc ms Q q lv (v :: v :: st) h) : mj_W M d mc ms Q pc lv (v :: st) h := by
  subst hq
  exact mj_pure (st1 := v :: st) (st2 := v :: v :: st) (fun _ _ _ _ _ _ _ _ _ _ _ _ _ _ _ _ _ hx hb => lv_dup hx hb hd (by rw [mj_t_cat]; exact hc)) (fun _ h => ⟨h.1, h⟩) k
theorem mj_pop {v : Value} (hc : v.category = 1) (hd : decode M.2.1 pc = .ok (.pop, 1)) (hq : pc + 1 = q) (k : mj_W M d mc ms Q q lv (st) h) : mj_W M d mc ms Q pc lv (v :: st) h := by
  subst hq
  exact mj_pure (st1 := v :: st) (st2 := st) (fun _ _ _ _ _ _ _ _ _ _ _ _ _ _ _ _ _ hx hb => lv_pop hx hb hd (by rw [mj_t_cat]; exact hc)) (fun _ h => h.2) k
theorem mj_dup2 {v w : Value} (hc : v.category = 1) (hw : w.category = 1) (hd : decode M.2.1 pc = .ok (.dup2, 1)) (hq : pc + 1 = q) (k : mj_W M d mc ms Q q lv (v :: w :: v :: w :: st) h) : mj_W M d mc ms Q pc lv (v :: w :: st) h := by
  subst hq
  exact mj_pure (st1 := v :: w :: st) (st2 := v :: w :: v :: w :: st) (fun _ _ _ _ _ _ _ _ _ _ _ _ _ _ _ _ _ hx hb => lv_dup2_11 hx hb hd (by rw [mj_t_cat]; exact hc) (by rw [mj_t_cat]; exact hw)) (fun _ h => ⟨h.1, h.2.1, h⟩) k
theorem mj_lcmp {x y : Int64} (hd : decode M.2.1 pc = .ok (.lcmp, 1)) (hq : pc + 1 = q) (k : mj_W M d mc ms Q q lv (.int (lg_cmp x y) :: st) h) : mj_W M d mc ms Q pc lv (.long y :: .long x :: st) h := by
  subst hq
  exact mj_pure (st1 := .long y :: .long x :: st) (st2 := .int (lg_cmp x y) :: st) (fun _ _ _ _ _ _ _ _ _ _ _ _ _ _ _ _ _ hx hb => W.lcmp hx hb hd) (fun _ h => ⟨trivial, h.2.2⟩) k
theorem mj_dcmp {x y : UInt64} {op : CmpOp} (hd : decode M.2.1 pc = .ok (.dcmp op, 1)) (hq : pc + 1 = q) (k : mj_W M d mc ms Q q lv (.int (Op.cmpValue (FP.dcmp x y) op) :: st) h) : mj_W M d mc ms Q pc lv (.double y :: .double x :: st) h := by
  subst hq
  exact mj_pure (st1 := .double y :: .double x :: st) (st2 := .int (Op.cmpValue (FP.dcmp x y) op) :: st) (fun _ _ _ _ _ _ _ _ _ _ _ _ _ _ _ _ _ hx hb => lv_dcmp hx hb hd) (fun _ h => ⟨trivial, h.2.2⟩) k
theorem mj_dsub {x y : UInt64} (hne : vf_n64 (FP.dsub x y)) (hd : decode M.2.1 pc = .ok (.dsub, 1)) (hq : pc + 1 = q) (k : mj_W M d mc ms Q q lv (.double (FP.dsub x y) :: st) h) : mj_W M d mc ms Q pc lv (.double y :: .double x :: st) h := by
  subst hq
  exact mj_pure (st1 := .double y :: .double x :: st) (st2 := .double (FP.dsub x y) :: st) (fun _ _ _ _ _ _ _ _ _ _ _ _ _ _ _ _ _ hx hb => lv_dsub hx hb hd hne) (fun _ h => ⟨trivial, h.2.2⟩) k
theorem mj_dmul {x y : UInt64} (hne : vf_n64 (FP.dmul x y)) (hd : decode M.2.1 pc = .ok (.dmul, 1)) (hq : pc + 1 = q) (k : mj_W M d mc ms Q q lv (.double (FP.dmul x y) :: st) h) : mj_W M d mc ms Q pc lv (.double y :: .double x :: st) h := by
  subst hq
  exact mj_pure (st1 := .double y :: .double x :: st) (st2 := .double (FP.dmul x y) :: st) (fun _ _ _ _ _ _ _ _ _ _ _ _ _ _ _ _ _ hx hb => lv_dmul hx hb hd hne) (fun _ h => ⟨trivial, h.2.2⟩) k
theorem mj_ddiv {x y : UInt64} (hne : vf_n64 (FP.ddiv x y)) (hd : decode M.2.1 pc = .ok (.ddiv, 1)) (hq : pc + 1 = q) (k : mj_W M d mc ms Q q lv (.double (FP.ddiv x y) :: st) h) : mj_W M d mc ms Q pc lv (.double y :: .double x :: st) h := by
  subst hq
  exact mj_pure (st1 := .double y :: .double x :: st) (st2 := .double (FP.ddiv x y) :: st) (fun _ _ _ _ _ _ _ _ _ _ _ _ _ _ _ _ _ hx hb => lv_ddiv hx hb hd hne) (fun _ h => ⟨trivial, h.2.2⟩) k
theorem mj_iload {i : Nat} {x : Int32} (hd : decode M.2.1 pc = .ok (.iload i, 2)) (hq : pc + 2 = q) (hl : lv[i]? = some (.int x)) (k : mj_W M d mc ms Q q lv (.int x :: st) h) : mj_W M d mc ms Q pc lv st h := by
  subst hq
  exact mj_load hl (by simp) (fun _ _ _ _ _ _ _ _ _ _ _ _ _ _ _ _ _ hx hb ha => lv_iload hx hb hd ha) k
theorem mj_iload_n {i : Nat} {j : Fin 4} {x : Int32} (hd : decode M.2.1 pc = .ok (.iload_n j, 1)) (hi : (j : Nat) = i) (hq : pc + 1 = q) (hl : lv[i]? = some (.int x)) (k : mj_W M d mc ms Q q lv (.int x :: st) h) : mj_W M d mc ms Q pc lv st h := by
  subst hq
  exact mj_load hl (by simp) (fun _ _ _ _ _ _ _ _ _ _ _ _ _ _ _ _ _ hx hb ha => lv_iload_n hx hb hd hi ha) k
theorem mj_lload {i : Nat} {x : Int64} (hd : decode M.2.1 pc = .ok (.lload i, 2)) (hq : pc + 2 = q) (hl : lv[i]? = some (.long x)) (k : mj_W M d mc ms Q q lv (.long x :: st) h) : mj_W M d mc ms Q pc lv st h := by
  subst hq
  exact mj_load hl (by simp) (fun _ _ _ _ _ _ _ _ _ _ _ _ _ _ _ _ _ hx hb ha => lv_lload hx hb hd ha) k
theorem mj_lload_n {i : Nat} {j : Fin 4} {x : Int64} (hd : decode M.2.1 pc = .ok (.lload_n j, 1)) (hi : (j : Nat) = i) (hq : pc + 1 = q) (hl : lv[i]? = some (.long x)) (k : mj_W M d mc ms Q q lv (.long x :: st) h) : mj_W M d mc ms Q pc lv st h := by
  subst hq
  exact mj_load hl (by simp) (fun _ _ _ _ _ _ _ _ _ _ _ _ _ _ _ _ _ hx hb ha => lv_lload_n hx hb hd hi ha) k
theorem mj_aload {i : Nat} {x : Nat} (hd : decode M.2.1 pc = .ok (.aload i, 2)) (hq : pc + 2 = q) (hl : lv[i]? = some (.ref x)) (k : mj_W M d mc ms Q q lv (.ref x :: st) h) : mj_W M d mc ms Q pc lv st h := by
  subst hq
  exact mj_load hl (by simp) (fun _ _ _ _ _ _ _ _ _ _ _ _ _ _ _ _ _ hx hb ha => lv_aload hx hb hd ha) k
theorem mj_aload_n {i : Nat} {j : Fin 4} {x : Nat} (hd : decode M.2.1 pc = .ok (.aload_n j, 1)) (hi : (j : Nat) = i) (hq : pc + 1 = q) (hl : lv[i]? = some (.ref x)) (k : mj_W M d mc ms Q q lv (.ref x :: st) h) : mj_W M d mc ms Q pc lv st h := by
  subst hq
  exact mj_load hl (by simp) (fun _ _ _ _ _ _ _ _ _ _ _ _ _ _ _ _ _ hx hb ha => lv_aload_n hx hb hd hi ha) k
theorem mj_dload {i : Nat} {x : UInt64} (hd : decode M.2.1 pc = .ok (.dload i, 2)) (hq : pc + 2 = q) (hl : lv[i]? = some (.double x)) (k : mj_W M d mc ms Q q lv (.double x :: st) h) : mj_W M d mc ms Q pc lv st h := by
  subst hq
  exact mj_load hl (by simp) (fun _ _ _ _ _ _ _ _ _ _ _ _ _ _ _ _ _ hx hb ha => lv_dload hx hb hd ha) k
theorem mj_dload_n {i : Nat} {j : Fin 4} {x : UInt64} (hd : decode M.2.1 pc = .ok (.dload_n j, 1)) (hi : (j : Nat) = i) (hq : pc + 1 = q) (hl : lv[i]? = some (.double x)) (k : mj_W M d mc ms Q q lv (.double x :: st) h) : mj_W M d mc ms Q pc lv st h := by
  subst hq
  exact mj_load hl (by simp) (fun _ _ _ _ _ _ _ _ _ _ _ _ _ _ _ _ _ hx hb ha => lv_dload_n hx hb hd hi ha) k
theorem mj_istore {i : Nat} {x : Int32} (hd : decode M.2.1 pc = .ok (.istore i, 2)) (hq : pc + 2 = q) (hlt : i < M.2.2.1) (hc : mj_c1 lv i = true) (k : mj_W M d mc ms Q q (lv.set i (.int x)) st h) : mj_W M d mc ms Q pc lv (.int x :: st) h := by
  subst hq
  intro p l e R s m args below meth c D b e0 B0 MC MS as0 QQ X E as H locs ls cells slots S
  obtain ⟨s1, s2, s3, s4, s5, s6, s7, s8⟩ := S
  exact lv_istore X.1 X.2.1 hd s4 hlt rfl (fun ls' hl' => k p l e R s m args below meth c D b e0 B0 MC MS as0 QQ X E as H locs ls' cells slots ⟨s1, s2, s3, mj_has_sub hl' (mj_store1 hc), mj_oks_set s5 trivial, s6.2, s7, s8⟩)
theorem mj_istore_n {i : Nat} {j : Fin 4} {x : Int32} (hd : decode M.2.1 pc = .ok (.istore_n j, 1)) (hi : (j : Nat) = i) (hq : pc + 1 = q) (hlt : i < M.2.2.1) (hc : mj_c1 lv i = true) (k : mj_W M d mc ms Q q (lv.set i (.int x)) st h) : mj_W M d mc ms Q pc lv (.int x :: st) h := by
  subst hq
  intro p l e R s m args below meth c D b e0 B0 MC MS as0 QQ X E as H locs ls cells slots S
  obtain ⟨s1, s2, s3, s4, s5, s6, s7, s8⟩ := S
  exact lv_istore_n X.1 X.2.1 hd hi s4 hlt rfl (fun ls' hl' => k p l e R s m args below meth c D b e0 B0 MC MS as0 QQ X E as H locs ls' cells slots ⟨s1, s2, s3, mj_has_sub hl' (mj_store1 hc), mj_oks_set s5 trivial, s6.2, s7, s8⟩)
theorem mj_lstore {i : Nat} {x : Int64} (hd : decode M.2.1 pc = .ok (.lstore i, 2)) (hq : pc + 2 = q) (hlt : i + 1 < M.2.2.1) (hc : mj_c1 lv i = true) (k : mj_W M d mc ms Q q ((lv.set i (.long x)).set (i + 1) .null) st h) : mj_W M d mc ms Q pc lv (.long x :: st) h := by
  subst hq
  intro p l e R s m args below meth c D b e0 B0 MC MS as0 QQ X E as H locs ls cells slots S
  obtain ⟨s1, s2, s3, s4, s5, s6, s7, s8⟩ := S
  exact lv_lstore X.1 X.2.1 hd s4 hlt rfl (fun ls' hl' => k p l e R s m args below meth c D b e0 B0 MC MS as0 QQ X E as H locs ls' cells slots ⟨s1, s2, s3, mj_has_sub hl' (mj_store2 hc), mj_oks_set (mj_oks_set s5 trivial) trivial, s6.2, s7, s8⟩)
theorem mj_lstore_n {i : Nat} {j : Fin 4} {x : Int64} (hd : decode M.2.1 pc = .ok (.lstore_n j, 1)) (hi : (j : Nat) = i) (hq : pc + 1 = q) (hlt : i + 1 < M.2.2.1) (hc : mj_c1 lv i = true) (k : mj_W M d mc ms Q q ((lv.set i (.long x)).set (i + 1) .null) st h) : mj_W M d mc ms Q pc lv (.long x :: st) h := by
  subst hq
  intro p l e R s m args below meth c D b e0 B0 MC MS as0 QQ X E as H locs ls cells slots S
  obtain ⟨s1, s2, s3, s4, s5, s6, s7, s8⟩ := S
  exact lv_lstore_n X.1 X.2.1 hd hi s4 hlt rfl (fun ls' hl' => k p l e R s m args below meth c D b e0 B0 MC MS as0 QQ X E as H locs ls' cells slots ⟨s1, s2, s3, mj_has_sub hl' (mj_store2 hc), mj_oks_set (mj_oks_set s5 trivial) trivial, s6.2, s7, s8⟩)
theorem mj_astore {i : Nat} {x : Nat} (hd : decode M.2.1 pc = .ok (.astore i, 2)) (hq : pc + 2 = q) (hlt : i < M.2.2.1) (hc : mj_c1 lv i = true) (k : mj_W M d mc ms Q q (lv.set i (.ref x)) st h) : mj_W M d mc ms Q pc lv (.ref x :: st) h := by
  subst hq
  intro p l e R s m args below meth c D b e0 B0 MC MS as0 QQ X E as H locs ls cells slots S
  obtain ⟨s1, s2, s3, s4, s5, s6, s7, s8⟩ := S
  exact lv_astore X.1 X.2.1 hd s4 hlt rfl (fun ls' hl' => k p l e R s m args below meth c D b e0 B0 MC MS as0 QQ X E as H locs ls' cells slots ⟨s1, s2, s3, mj_has_sub hl' (mj_store1 hc), mj_oks_set s5 s6.1, s6.2, s7, s8⟩)
theorem mj_astore_n {i : Nat} {j : Fin 4} {x : Nat} (hd : decode M.2.1 pc = .ok (.astore_n j, 1)) (hi : (j : Nat) = i) (hq : pc + 1 = q) (hlt : i < M.2.2.1) (hc : mj_c1 lv i = true) (k : mj_W M d mc ms Q q (lv.set i (.ref x)) st h) : mj_W M d mc ms Q pc lv (.ref x :: st) h := by
  subst hq
  intro p l e R s m args below meth c D b e0 B0 MC MS as0 QQ X E as H locs ls cells slots S
  obtain ⟨s1, s2, s3, s4, s5, s6, s7, s8⟩ := S
  exact lv_astore_n X.1 X.2.1 hd hi s4 hlt rfl (fun ls' hl' => k p l e R s m args below meth c D b e0 B0 MC MS as0 QQ X E as H locs ls' cells slots ⟨s1, s2, s3, mj_has_sub hl' (mj_store1 hc), mj_oks_set s5 s6.1, s6.2, s7, s8⟩)
theorem mj_dstore {i : Nat} {x : UInt64} (hd : decode M.2.1 pc = .ok (.dstore i, 2)) (hq : pc + 2 = q) (hlt : i + 1 < M.2.2.1) (hc : mj_c1 lv i = true) (k : mj_W M d mc ms Q q ((lv.set i (.double x)).set (i + 1) .null) st h) : mj_W M d mc ms Q pc lv (.double x :: st) h := by
  subst hq
  intro p l e R s m args below meth c D b e0 B0 MC MS as0 QQ X E as H locs ls cells slots S
  obtain ⟨s1, s2, s3, s4, s5, s6, s7, s8⟩ := S
  exact lv_dstore X.1 X.2.1 hd s4 hlt rfl (fun ls' hl' => k p l e R s m args below meth c D b e0 B0 MC MS as0 QQ X E as H locs ls' cells slots ⟨s1, s2, s3, mj_has_sub hl' (mj_store2 hc), mj_oks_set (mj_oks_set s5 trivial) trivial, s6.2, s7, s8⟩)
theorem mj_dstore_n {i : Nat} {j : Fin 4} {x : UInt64} (hd : decode M.2.1 pc = .ok (.dstore_n j, 1)) (hi : (j : Nat) = i) (hq : pc + 1 = q) (hlt : i + 1 < M.2.2.1) (hc : mj_c1 lv i = true) (k : mj_W M d mc ms Q q ((lv.set i (.double x)).set (i + 1) .null) st h) : mj_W M d mc ms Q pc lv (.double x :: st) h := by
  subst hq
  intro p l e R s m args below meth c D b e0 B0 MC MS as0 QQ X E as H locs ls cells slots S
  obtain ⟨s1, s2, s3, s4, s5, s6, s7, s8⟩ := S
  exact lv_dstore_n X.1 X.2.1 hd hi s4 hlt rfl (fun ls' hl' => k p l e R s m args below meth c D b e0 B0 MC MS as0 QQ X E as H locs ls' cells slots ⟨s1, s2, s3, mj_has_sub hl' (mj_store2 hc), mj_oks_set (mj_oks_set s5 trivial) trivial, s6.2, s7, s8⟩)
theorem mj_iinc {i : Nat} {n : Int} {x : Int32} (hd : decode M.2.1 pc = .ok (.iinc i n, 3)) (hq : pc + 3 = q) (hl : lv[i]? = some (.int x)) (hlt : i < M.2.2.1) (hc : mj_c1 lv i = true) (k : mj_W M d mc ms Q q (lv.set i (.int (x + Int32.ofInt n))) st h) : mj_W M d mc ms Q pc lv st h := by
  subst hq
  intro p l e R s m args below meth c D b e0 B0 MC MS as0 QQ X E as H locs ls cells slots S
  obtain ⟨s1, s2, s3, s4, s5, s6, s7, s8⟩ := S
  obtain ⟨j, hj⟩ := List.mem_iff_getElem?.mp ((mj_al_mem (as := as) lv 0 (i, .int x)).mpr ⟨i, .int x, hl, by simp, by rw [Nat.zero_add]; rfl⟩)
  exact lv_iinc X.1 X.2.1 hd s4 hj rfl hlt rfl (fun ls' hl' => k p l e R s m args below meth c D b e0 B0 MC MS as0 QQ X E as H locs ls' cells slots ⟨s1, s2, s3, mj_has_sub hl' (mj_store1 hc), mj_oks_set s5 trivial, s6, s7, s8⟩)
theorem mj_goto {off : Int} (hd : decode M.2.1 pc = .ok (.goto off, 3)) (ht : (pc : Int) + off = (q : Int)) (k : mj_W M d mc ms Q q lv st h) : mj_W M d mc ms Q pc lv st h := mj_pure (fun _ _ _ _ _ _ _ _ _ _ _ _ _ _ _ _ _ hx hb => lv_goto hx hb hd ht) (fun _ h => h) k
theorem mj_if_eq {x : Int32} {off : Int} {tgt : Nat} (hd : decode M.2.1 pc = .ok (.ifCond .eq off, 3)) (ht : (pc : Int) + off = (tgt : Int)) (hq : pc + 3 = q) (kt : x = 0 → mj_W M d mc ms Q tgt lv st h) (kf : ¬ x = 0 → mj_W M d mc ms Q q lv st h) : mj_W M d mc ms Q pc lv (.int x :: st) h := by
  subst hq
  intro p l e R s m args below meth c D b e0 B0 MC MS as0 QQ X E as H locs ls cells slots S
  obtain ⟨s1, s2, s3, s4, s5, s6, s7, s8⟩ := S
  exact lv_if_eq X.1 X.2.1 hd ht (fun hh => kt hh p l e R s m args below meth c D b e0 B0 MC MS as0 QQ X E as H locs ls cells slots ⟨s1, s2, s3, s4, s5, s6.2, s7, s8⟩) (fun hh => kf hh p l e R s m args below meth c D b e0 B0 MC MS as0 QQ X E as H locs ls cells slots ⟨s1, s2, s3, s4, s5, s6.2, s7, s8⟩)
theorem mj_if_lt {x : Int32} {off : Int} {tgt : Nat} (hd : decode M.2.1 pc = .ok (.ifCond .lt off, 3)) (ht : (pc : Int) + off = (tgt : Int)) (hq : pc + 3 = q) (kt : x < 0 → mj_W M d mc ms Q tgt lv st h) (kf : ¬ x < 0 → mj_W M d mc ms Q q lv st h) : mj_W M d mc ms Q pc lv (.int x :: st) h := by
  subst hq
  intro p l e R s m args below meth c D b e0 B0 MC MS as0 QQ X E as H locs ls cells slots S
  obtain ⟨s1, s2, s3, s4, s5, s6, s7, s8⟩ := S
  exact lv_if_lt X.1 X.2.1 hd ht (fun hh => kt hh p l e R s m args below meth c D b e0 B0 MC MS as0 QQ X E as H locs ls cells slots ⟨s1, s2, s3, s4, s5, s6.2, s7, s8⟩) (fun hh => kf hh p l e R s m args below meth c D b e0 B0 MC MS as0 QQ X E as H locs ls cells slots ⟨s1, s2, s3, s4, s5, s6.2, s7, s8⟩)
theorem mj_if_ge {x : Int32} {off : Int} {tgt : Nat} (hd : decode M.2.1 pc = .ok (.ifCond .ge off, 3)) (ht : (pc : Int) + off = (tgt : Int)) (hq : pc + 3 = q) (kt : 0 ≤ x → mj_W M d mc ms Q tgt lv st h) (kf : ¬ 0 ≤ x → mj_W M d mc ms Q q lv st h) : mj_W M d mc ms Q pc lv (.int x :: st) h := by
  subst hq
  intro p l e R s m args below meth c D b e0 B0 MC MS as0 QQ X E as H locs ls cells slots S
  obtain ⟨s1, s2, s3, s4, s5, s6, s7, s8⟩ := S
  exact lv_if_ge X.1 X.2.1 hd ht (fun hh => kt hh p l e R s m args below meth c D b e0 B0 MC MS as0 QQ X E as H locs ls cells slots ⟨s1, s2, s3, s4, s5, s6.2, s7, s8⟩) (fun hh => kf hh p l e R s m args below meth c D b e0 B0 MC MS as0 QQ X E as H locs ls cells slots ⟨s1, s2, s3, s4, s5, s6.2, s7, s8⟩)
theorem mj_if_gt {x : Int32} {off : Int} {tgt : Nat} (hd : decode M.2.1 pc = .ok (.ifCond .gt off, 3)) (ht : (pc : Int) + off = (tgt : Int)) (hq : pc + 3 = q) (kt : 0 < x → mj_W M d mc ms Q tgt lv st h) (kf : ¬ 0 < x → mj_W M d mc ms Q q lv st h) : mj_W M d mc ms Q pc lv (.int x :: st) h := by
  subst hq
  intro p l e R s m args below meth c D b e0 B0 MC MS as0 QQ X E as H locs ls cells slots S
  obtain ⟨s1, s2, s3, s4, s5, s6, s7, s8⟩ := S
  exact lv_if_gt X.1 X.2.1 hd ht (fun hh => kt hh p l e R s m args below meth c D b e0 B0 MC MS as0 QQ X E as H locs ls cells slots ⟨s1, s2, s3, s4, s5, s6.2, s7, s8⟩) (fun hh => kf hh p l e R s m args below meth c D b e0 B0 MC MS as0 QQ X E as H locs ls cells slots ⟨s1, s2, s3, s4, s5, s6.2, s7, s8⟩)
theorem mj_if_le {x : Int32} {off : Int} {tgt : Nat} (hd : decode M.2.1 pc = .ok (.ifCond .le off, 3)) (ht : (pc : Int) + off = (tgt : Int)) (hq : pc + 3 = q) (kt : x ≤ 0 → mj_W M d mc ms Q tgt lv st h) (kf : ¬ x ≤ 0 → mj_W M d mc ms Q q lv st h) : mj_W M d mc ms Q pc lv (.int x :: st) h := by
  subst hq
  intro p l e R s m args below meth c D b e0 B0 MC MS as0 QQ X E as H locs ls cells slots S
  obtain ⟨s1, s2, s3, s4, s5, s6, s7, s8⟩ := S
  exact lv_if_le X.1 X.2.1 hd ht (fun hh => kt hh p l e R s m args below meth c D b e0 B0 MC MS as0 QQ X E as H locs ls cells slots ⟨s1, s2, s3, s4, s5, s6.2, s7, s8⟩) (fun hh => kf hh p l e R s m args below meth c D b e0 B0 MC MS as0 QQ X E as H locs ls cells slots ⟨s1, s2, s3, s4, s5, s6.2, s7, s8⟩)
theorem mj_icmp_eq {x y : Int32} {off : Int} {tgt : Nat} (hd : decode M.2.1 pc = .ok (.if_icmp .eq off, 3)) (ht : (pc : Int) + off = (tgt : Int)) (hq : pc + 3 = q) (kt : x = y → mj_W M d mc ms Q tgt lv st h) (kf : ¬ x = y → mj_W M d mc ms Q q lv st h) : mj_W M d mc ms Q pc lv (.int y :: .int x :: st) h := by
  subst hq
  intro p l e R s m args below meth c D b e0 B0 MC MS as0 QQ X E as H locs ls cells slots S
  obtain ⟨s1, s2, s3, s4, s5, s6, s7, s8⟩ := S
  exact lv_icmp_eq X.1 X.2.1 hd ht (fun hh => kt hh p l e R s m args below meth c D b e0 B0 MC MS as0 QQ X E as H locs ls cells slots ⟨s1, s2, s3, s4, s5, s6.2.2, s7, s8⟩) (fun hh => kf hh p l e R s m args below meth c D b e0 B0 MC MS as0 QQ X E as H locs ls cells slots ⟨s1, s2, s3, s4, s5, s6.2.2, s7, s8⟩)
theorem mj_icmp_lt {x y : Int32} {off : Int} {tgt : Nat} (hd : decode M.2.1 pc = .ok (.if_icmp .lt off, 3)) (ht : (pc : Int) + off = (tgt : Int)) (hq : pc + 3 = q) (kt : x < y → mj_W M d mc ms Q tgt lv st h) (kf : ¬ x < y → mj_W M d mc ms Q q lv st h) : mj_W M d mc ms Q pc lv (.int y :: .int x :: st) h := by
  subst hq
  intro p l e R s m args below meth c D b e0 B0 MC MS as0 QQ X E as H locs ls cells slots S
  obtain ⟨s1, s2, s3, s4, s5, s6, s7, s8⟩ := S
  exact lv_icmp_lt X.1 X.2.1 hd ht (fun hh => kt hh p l e R s m args below meth c D b e0 B0 MC MS as0 QQ X E as H locs ls cells slots ⟨s1, s2, s3, s4, s5, s6.2.2, s7, s8⟩) (fun hh => kf hh p l e R s m args below meth c D b e0 B0 MC MS as0 QQ X E as H locs ls cells slots ⟨s1, s2, s3, s4, s5, s6.2.2, s7, s8⟩)
theorem mj_icmp_ge {x y : Int32} {off : Int} {tgt : Nat} (hd : decode M.2.1 pc = .ok (.if_icmp .ge off, 3)) (ht : (pc : Int) + off = (tgt : Int)) (hq : pc + 3 = q) (kt : y ≤ x → mj_W M d mc ms Q tgt lv st h) (kf : ¬ y ≤ x → mj_W M d mc ms Q q lv st h) : mj_W M d mc ms Q pc lv (.int y :: .int x :: st) h := by
  subst hq
  intro p l e R s m args below meth c D b e0 B0 MC MS as0 QQ X E as H locs ls cells slots S
  obtain ⟨s1, s2, s3, s4, s5, s6, s7, s8⟩ := S
  exact lv_icmp_ge X.1 X.2.1 hd ht (fun hh => kt hh p l e R s m args below meth c D b e0 B0 MC MS as0 QQ X E as H locs ls cells slots ⟨s1, s2, s3, s4, s5, s6.2.2, s7, s8⟩) (fun hh => kf hh p l e R s m args below meth c D b e0 B0 MC MS as0 QQ X E as H locs ls cells slots ⟨s1, s2, s3, s4, s5, s6.2.2, s7, s8⟩)
theorem mj_icmp_gt {x y : Int32} {off : Int} {tgt : Nat} (hd : decode M.2.1 pc = .ok (.if_icmp .gt off, 3)) (ht : (pc : Int) + off = (tgt : Int)) (hq : pc + 3 = q) (kt : y < x → mj_W M d mc ms Q tgt lv st h) (kf : ¬ y < x → mj_W M d mc ms Q q lv st h) : mj_W M d mc ms Q pc lv (.int y :: .int x :: st) h := by
  subst hq
  intro p l e R s m args below meth c D b e0 B0 MC MS as0 QQ X E as H locs ls cells slots S
  obtain ⟨s1, s2, s3, s4, s5, s6, s7, s8⟩ := S
  exact lv_icmp_gt X.1 X.2.1 hd ht (fun hh => kt hh p l e R s m args below meth c D b e0 B0 MC MS as0 QQ X E as H locs ls cells slots ⟨s1, s2, s3, s4, s5, s6.2.2, s7, s8⟩) (fun hh => kf hh p l e R s m args below meth c D b e0 B0 MC MS as0 QQ X E as H locs ls cells slots ⟨s1, s2, s3, s4, s5, s6.2.2, s7, s8⟩)
theorem mj_icmp_le {x y : Int32} {off : Int} {tgt : Nat} (hd : decode M.2.1 pc = .ok (.if_icmp .le off, 3)) (ht : (pc : Int) + off = (tgt : Int)) (hq : pc + 3 = q) (kt : x ≤ y → mj_W M d mc ms Q tgt lv st h) (kf : ¬ x ≤ y → mj_W M d mc ms Q q lv st h) : mj_W M d mc ms Q pc lv (.int y :: .int x :: st) h := by
  subst hq
  intro p l e R s m args below meth c D b e0 B0 MC MS as0 QQ X E as H locs ls cells slots S
  obtain ⟨s1, s2, s3, s4, s5, s6, s7, s8⟩ := S
  exact lv_icmp_le X.1 X.2.1 hd ht (fun hh => kt hh p l e R s m args below meth c D b e0 B0 MC MS as0 QQ X E as H locs ls cells slots ⟨s1, s2, s3, s4, s5, s6.2.2, s7, s8⟩) (fun hh => kf hh p l e R s m args below meth c D b e0 B0 MC MS as0 QQ X E as H locs ls cells slots ⟨s1, s2, s3, s4, s5, s6.2.2, s7, s8⟩)
theorem mj_if_ne {x : Int32} {off : Int} {tgt : Nat} (hd : decode M.2.1 pc = .ok (.ifCond .ne off, 3)) (ht : (pc : Int) + off = (tgt : Int)) (hq : pc + 3 = q) (kt : ¬ x = 0 → mj_W M d mc ms Q tgt lv st h) (kf : x = 0 → mj_W M d mc ms Q q lv st h) : mj_W M d mc ms Q pc lv (.int x :: st) h := by
  subst hq
  intro p l e R s m args below meth c D b e0 B0 MC MS as0 QQ X E as H locs ls cells slots S
  obtain ⟨s1, s2, s3, s4, s5, s6, s7, s8⟩ := S
  exact lv_if_ne X.1 X.2.1 hd ht (fun hh => kt hh p l e R s m args below meth c D b e0 B0 MC MS as0 QQ X E as H locs ls cells slots ⟨s1, s2, s3, s4, s5, s6.2, s7, s8⟩) (fun hh => kf hh p l e R s m args below meth c D b e0 B0 MC MS as0 QQ X E as H locs ls cells slots ⟨s1, s2, s3, s4, s5, s6.2, s7, s8⟩)
theorem mj_icmp_ne {x y : Int32} {off : Int} {tgt : Nat} (hd : decode M.2.1 pc = .ok (.if_icmp .ne off, 3)) (ht : (pc : Int) + off = (tgt : Int)) (hq : pc + 3 = q) (kt : ¬ x = y → mj_W M d mc ms Q tgt lv st h) (kf : x = y → mj_W M d mc ms Q q lv st h) : mj_W M d mc ms Q pc lv (.int y :: .int x :: st) h := by
  subst hq
  intro p l e R s m args below meth c D b e0 B0 MC MS as0 QQ X E as H locs ls cells slots S
  obtain ⟨s1, s2, s3, s4, s5, s6, s7, s8⟩ := S
  exact lv_icmp_ne X.1 X.2.1 hd ht (fun hh => kt hh p l e R s m args below meth c D b e0 B0 MC MS as0 QQ X E as H locs ls cells slots ⟨s1, s2, s3, s4, s5, s6.2.2, s7, s8⟩) (fun hh => kf hh p l e R s m args below meth c D b e0 B0 MC MS as0 QQ X E as H locs ls cells slots ⟨s1, s2, s3, s4, s5, s6.2.2, s7, s8⟩)
theorem mj_tabIn {dflt lo hi : Int} {offs : Array Int} {len : Nat} {x : Int32} {off : Int} (hd : decode M.2.1 pc = .ok (.tableswitch dflt lo hi offs, len)) (h1 : ¬ x.toInt < lo) (h2 : ¬ hi < x.toInt) (ho : offs[(x.toInt - lo).toNat]? = some off) (ht : (pc : Int) + off = (q : Int)) (k : mj_W M d mc ms Q q lv st h) : mj_W M d mc ms Q pc lv (.int x :: st) h := mj_pure (fun _ _ _ _ _ _ _ _ _ _ _ _ _ _ _ _ _ hx hb => lv_tableIn hx hb hd h1 h2 ho ht) (fun _ h => h.2) k
theorem mj_tabOut {dflt lo hi : Int} {offs : Array Int} {len : Nat} {x : Int32} (hd : decode M.2.1 pc = .ok (.tableswitch dflt lo hi offs, len)) (h1 : x.toInt < lo ∨ hi < x.toInt) (ht : (pc : Int) + dflt = (q : Int)) (k : mj_W M d mc ms Q q lv st h) : mj_W M d mc ms Q pc lv (.int x :: st) h := mj_pure (fun _ _ _ _ _ _ _ _ _ _ _ _ _ _ _ _ _ hx hb => lv_tableOut hx hb hd h1 ht) (fun _ h => h.2) k
theorem mj_ret {v : Option Value} (hd : decode M.2.1 pc = .ok (mj_ri v, 1)) (hr : mj_rv M v) (hq : Q.1 v h) : mj_W M d mc ms Q pc lv v.toList h := by
  intro p l e R s m args below meth c D b e0 B0 MC MS as0 QQ X E as H locs ls cells slots S
  obtain ⟨s1, s2, s3, s4, s5, s6, s7, s8⟩ := S
  exact E.1 as H locs ls cells slots pc v lv h hq hr hd ⟨s1, s2, s3, s4, s5, s6, by omega, by omega⟩
theorem mj_ireturn {x : Int32} (hd : decode M.2.1 pc = .ok (.ireturn, 1)) (hr : ∃ ty, M.2.2.2.1 = some ty ∧ narrow ty (.int x) = .int x) (hq : Q.1 (some (.int x)) h) : mj_W M d mc ms Q pc lv [.int x] h := mj_ret (v := some (.int x)) hd hr hq
theorem mj_lreturn {x : Int64} (hd : decode M.2.1 pc = .ok (.lreturn, 1)) (hr : M.2.2.2.1 = some .long) (hq : Q.1 (some (.long x)) h) : mj_W M d mc ms Q pc lv [.long x] h := mj_ret (v := some (.long x)) hd hr hq
theorem mj_dreturn {x : UInt64} (hd : decode M.2.1 pc = .ok (.dreturn, 1)) (hr : M.2.2.2.1 = some .double) (hq : Q.1 (some (.double x)) h) : mj_W M d mc ms Q pc lv [.double x] h := mj_ret (v := some (.double x)) hd hr hq
theorem mj_areturn {x : Nat} (hd : decode M.2.1 pc = .ok (.areturn, 1)) (hr : ∃ rt, M.2.2.2.1 = some rt ∧ ((∃ n, rt = .object n) ∨ ∃ t, rt = .array t)) (hq : Q.1 (some (.ref x)) h) : mj_W M d mc ms Q pc lv [.ref x] h := mj_ret (v := some (.ref x)) hd hr hq
theorem mj_return {h : mj_H} (hd : decode M.2.1 pc = .ok (.return_, 1)) (hr : M.2.2.2.1 = none) (hq : Q.1 none h) : mj_W M d mc ms Q pc lv [] h := mj_ret (v := none) hd hr hq
theorem mj_budget {mc1 ms1 : Nat} (h1 : mc1 ≤ mc) (h2 : ms1 ≤ ms) (k : mj_W M d mc1 ms1 Q pc lv st h) : mj_W M d mc ms Q pc lv st h := by
  intro p l e R s m args below meth c D b e0 B0 MC MS as0 QQ X E as H locs ls cells slots S
  obtain ⟨s1, s2, s3, s4, s5, s6, s7, s8⟩ := S
  exact k p l e R s m args below meth c D b e0 B0 MC MS as0 QQ X E as H locs ls cells slots ⟨s1, s2, s3, s4, s5, s6, by omega, by omega⟩
theorem mj_mono {Q1 : mj_Q} (hQ : ∀ v h1, Q1.1 v h1 → Q.1 v h1) (hX : ∀ n h1, Q1.2 n h1 → Q.2 n h1) (k : mj_W M d mc ms Q1 pc lv st h) : mj_W M d mc ms Q pc lv st h := by
  intro p l e R s m args below meth c D b e0 B0 MC MS as0 QQ X E as H locs ls cells slots S
  refine k p l e R s m args below meth c D b e0 B0 MC MS as0 QQ X ⟨fun as H locs ls cells slots pc v lv h hq => E.1 as H locs ls cells slots pc v lv h (hQ v h hq), ?_⟩ as H locs ls cells slots S
  rintro t ⟨o, b1, b2, b3⟩
  refine E.2 t ⟨o, b1, b2, ?_⟩
  rcases b3 with ⟨z, -⟩ | ⟨q, h0, E9, ce, L, ⟨⟨n, as1, h1, g1, g2, g3, g4⟩, g5⟩, h2⟩
  · exact z.elim
  · exact Or.inr ⟨q, h0, E9, ce, L, ⟨⟨n, as1, h1, g1, hX n h1 g2, g3, g4⟩, g5⟩, h2⟩
/-- fewer known locals -/
theorem mj_forget {lv2 : List Value} (hs : ∀ (i : Nat) (v : Value), lv2[i]? = some v → v ≠ Value.null → lv[i]? = some v) (hn : ∀ n, mj_oks n lv → mj_oks n lv2) (k : mj_W M d mc ms Q pc lv2 st h) : mj_W M d mc ms Q pc lv st h := by
  intro p l e R s m args below meth c D b e0 B0 MC MS as0 QQ X E as H locs ls cells slots S
  obtain ⟨s1, s2, s3, s4, s5, s6, s7, s8⟩ := S
  exact k p l e R s m args below meth c D b e0 B0 MC MS as0 QQ X E as H locs ls cells slots ⟨s1, s2, s3, mj_has_sub s4 (fun q hq => by
    obtain ⟨i, v, h1, h2, h3⟩ := (mj_al_mem _ _ _).mp hq
    exact (mj_al_mem _ _ _).mpr ⟨i, v, hs i v h1 h2, h2, h3⟩), hn _ s5, s6, s7, s8⟩
/-- a throw that is not caught here -/
theorem mj_T_out {n : Nat} (hh : M.2.2.2.2.2.2 = []) (hq : Q.2 n h) : mj_T M d mc ms Q pc lv n h := by
  intro p l e R s m args below meth c D b e0 B0 MC MS as0 QQ X E as H locs ls cells slots st q ce S hce hv hcl
  obtain ⟨s1, s2, s3, s4, s5, s6, s7, s8⟩ := S
  obtain ⟨x1, x2, x3, x4, x5, x6, x7, x8, x9, x10, x11, x12, x13, x14, x15, x16, x17, x18⟩ := id X
  have ht : ∀ x ∈ c.exceptionTable.toList, covers x pc = false := by
    rw [hh] at x18
    rw [List.map_eq_nil_iff.mp x18]
    intro x hx
    cases hx
  have k := vx_out (p := p) (l := l) (e := e) (R := R) (s := s) (m := m) (args := args) (below := below) (meth := meth) (c := c) (H := H) (locs := locs) (cells := cells) (slots := slots) (ls := ls) (rest := st) (free := fun q => B0 ≤ q) (Qc := fun _ _ _ _ => False) (XC := mj_XC D b e0 B0 as0 Q.2) (mc := MC) (ms := MS) (pc := pc) ht x8 hce hv hcl
    (fun t ht2 hW => ⟨⟨n, as, h, rfl, hq, s3, by rw [ht2]; exact mj_Hp.moved hW s1⟩, s2.F ht2⟩) s2.2.2 (by omega) (by omega)
  intro T hT XT
  obtain ⟨t, a1, b1⟩ := k T hT XT
  exact ⟨t, a1, E.2 t b1⟩
end MJ1
