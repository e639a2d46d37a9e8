/-! THE MINI MACHINE, with throws, longs and lists: cells by number (0: the script; 1: ArrayList's shared empty row; each new cell the next number), ints and references in two functions of cell and place, a long as two ints at k and k + 64; locals as a list by place (null: nothing known); mj_W is the walk over it, for every real machine that holds it; mj_C a method's contract: what it returns, and what it throws (classes by number). e0: where ArrayList's shared empty row lies. -/
abbrev mj_K : Type := Nat × Nat × Nat
abbrev mj_H : Type := Nat × (Nat → mj_K) × (Nat → Nat → Int32) × (Nat → Nat → Option Nat)
def mj_t (as : List Nat) (v : Value) : Value := match v with
  | .ref k => .ref (as.getD k 0)
  | v => v
def mj_ok (n : Nat) (v : Value) : Prop := match v with
  | .ref k => k < n
  | _ => True
def mj_oks (n : Nat) : List Value → Prop
  | [] => True
  | v :: st => mj_ok n v ∧ mj_oks n st
def mj_up {α : Type} (f : Nat → Nat → α) (a k : Nat) (v : α) : Nat → Nat → α := fun b j => if b = a ∧ j = k then v else f b j
def mj_row {α : Type} (f : Nat → α) (a : Nat) (v : α) : Nat → α := fun b => if b = a then v else f b
/-- a long out of two ints, and back -/
def mj_lg (a b : Int32) : Int64 := Int64.ofInt (a.toInt * 4294967296 + b.toInt % 4294967296)
def mj_lh (x : Int64) : Int32 := Int32.ofInt (x.toInt / 4294967296)
def mj_ll (x : Int64) : Int32 := Int32.ofInt (x.toInt % 4294967296)
def mj_fv (as : List Nat) (ci : Nat) (f : Nat → Int32) (g : Nat → Option Nat) (k : Nat) : Value :=
  if mT_R ci k = 1 then va_rf ((g k).map fun b => as.getD b 0) else if mT_R ci k = 2 then .long (mj_lg (f k) (f (k + 64))) else .int (f k)
def mj_fs (as : List Nat) (ci : Nat) (f : Nat → Int32) (g : Nat → Option Nat) : List Value :=
  (List.range (mT_N ci)).map fun k => mj_fv as ci f g k
def mj_cell (tys : List (ClassId × FieldType)) (e0 : Nat) (as : List Nat) (K : mj_K) (f : Nat → Int32) (g : Nat → Option Nat) (e : va_E) : Prop :=
  (K.1 = 0 ∧ ∃ (cA : ClassId) (t0 : Nat), tys[t0]? = some (cA, .int) ∧ e = .inl (cA, K.2.1, .inl f)) ∨
  (K.1 = 1 ∧ ∃ (cA : ClassId) (t0 : Nat), tys[t0]? = some (cA, .object (mT_C K.2.2)) ∧ e = .inl (cA, K.2.1, .inr (.inr (.inr (.inr fun j => (g j).map fun b => as.getD b 0))))) ∨
  (K.1 = 2 ∧ K.2.1 < 10 ∧ e = .inr (K.2.1, mj_fs as K.2.1 f g)) ∨
  (K.1 = 4 ∧ ∃ (cA : ClassId) (t0 : Nat) (F : Nat → Int64), tys[t0]? = some (cA, .long) ∧ e = .inl (cA, K.2.1, .inr (.inl F)) ∧ ∀ j, j < K.2.1 → F j = mj_lg (f j) (f (j + 64))) ∨
  (K.1 = 6 ∧ ∃ (cA : ClassId) (t0 : Nat), tys[t0]? = some (cA, .object "java/lang/Object") ∧ e = .inl (cA, K.2.1, .inr (.inr (.inr (.inr fun j => (g j).map fun b => as.getD b 0)))))
def mj_Hp (D : va_G) (b e0 : Nat) (as : List Nat) (h : mj_H) (A : Nat → Prop) (s : State) (H : Heap) : Prop := ∃ (ws : va_W) (tys : List (ClassId × FieldType)),
  as = b :: e0 :: ws.map (·.1) ∧ h.1 = ws.length + 2 ∧ (∀ k j c, h.2.2.2 k j = some c → c < h.1) ∧
  (∀ k q, ws[k]? = some q → mj_cell tys e0 as (h.2.1 (k + 2)) (h.2.2.1 (k + 2)) (h.2.2.2 (k + 2)) q.2) ∧
  va_K D vwCl tys s ∧ va_P D vwCl ws H ∧ va_D A ws ∧ ((h.2.1 0).1 = 3 ∧ (h.2.1 1).1 = 7) ∧ va_X b (h.2.1 0).2.1 (h.2.2.1 0) s H
/-- the statics that a throw and a new list read -/
def mj_S0 (e0 : Nat) (A : Nat → Prop) (s : State) : Prop :=
  vx_Zq Bundle.tN "UNASSIGNED_STACK" Bundle.steD A s s.heap ∧ vx_Zq Bundle.tN "SUPPRESSED_SENTINEL" Bundle.listD A s s.heap ∧
  va_Z "java/util/ArrayList" "DEFAULTCAPACITY_EMPTY_ELEMENTDATA" "[Ljava/lang/Object;" (.ref e0) A s s.heap ∧ ¬ A e0 ∧ ∃ scr : Cell, s.heap[e0]? = some scr ∧ (∃ ty, s.isArrayOf scr ty) ∧ scr.slots.size = 0
def mj_al (as : List Nat) : Nat → List Value → List (Nat × Value)
  | _, [] => []
  | i, v :: r => match v with
    | .null => mj_al as (i + 1) r
    | v => (i, mj_t as v) :: mj_al as (i + 1) r
abbrev mj_M : Type := MethodName × ByteArray × Nat × Option FieldType × String × Bool × List (Nat × Nat × Nat × Nat)
def mj_X (M : mj_M) (d b e0 B0 MC MS : Nat) (p : Program) (l : Launch) (R : Room) (s : State) (m : MethodId) (args : Array Value) (meth : Method) (c : Code) : Prop :=
  p.tables.exec = Jvm.exec ∧ c.code = M.2.1 ∧ c.maxLocals = M.2.2.1 ∧ s.vm.findClass M.2.2.2.2.1 = some m.cls ∧ (∀ w ∈ mj_TW, w.before args s = true) ∧ mj_XW s ∧
  meth.sig.returnType = M.2.2.2.1 ∧ meth.locks = false ∧ (M.2.2.2.2.2.1 = true → meth.name = "<init>") ∧ d ≤ R.frames ∧ 40 * d ≤ R.locals ∧ MC ≤ R.cells ∧ MS ≤ R.slots ∧ b < B0 ∧
  B0 ≤ s.heap.size ∧ mj_S0 e0 (fun q => B0 ≤ q) s ∧ l.stackTraces = false ∧ c.exceptionTable.toList.map (fun h => (h.startPc, h.endPc, h.handlerPc, h.catchType)) = M.2.2.2.2.2.2
def mj_St (M : mj_M) (mc ms : Nat) (D : va_G) (b e0 B0 MC MS : Nat) (as0 as : List Nat) (s : State) (H : Heap) (locs : List Loc) (ls : Array Slot) (cells slots : Nat) (lv st : List Value) (h : mj_H) : Prop :=
  mj_Hp D b e0 as h (fun q => B0 ≤ q) s H ∧ va_S (fun q => B0 ≤ q) s.heap H locs ∧ (∃ ex, as = as0 ++ ex) ∧ lv_has ls M.2.2.1 (mj_al as 0 lv) ∧ mj_oks h.1 lv ∧ mj_oks h.1 st ∧ cells + mc ≤ MC ∧ slots + ms ≤ MS
def mj_ri (v : Option Value) : Instr := match v with
  | some (.int _) => .ireturn
  | some (.long _) => .lreturn
  | some (.double _) => .dreturn
  | some (.ref _) => .areturn
  | _ => .return_
def mj_rv (M : mj_M) (v : Option Value) : Prop := match v with
  | none => M.2.2.2.1 = none
  | some (.int x) => ∃ ty, M.2.2.2.1 = some ty ∧ narrow ty (.int x) = .int x
  | some (.long _) => M.2.2.2.1 = some .long
  | some (.double _) => M.2.2.2.1 = some .double
  | some (.ref _) => ∃ rt, M.2.2.2.1 = some rt ∧ ((∃ n, rt = .object n) ∨ ∃ t, rt = .array t)
  | _ => False
/-- what is returned, what is thrown (a class by its number) -/
abbrev mj_Q : Type := (Option Value → mj_H → Prop) × (Nat → mj_H → Prop)
def mj_xn (n : Nat) : String := match n with
  | 0 => "java/lang/IllegalArgumentException"
  | 1 => "java/lang/IndexOutOfBoundsException"
  | _ => "java/lang/IllegalStateException"
def mj_XC (D : va_G) (b e0 B0 : Nat) (as : List Nat) (QX : Nat → mj_H → Prop) : String → State → State → Prop := fun E st t =>
  (∃ (n : Nat) (as1 : List Nat) (h1 : mj_H), E = mj_xn n ∧ QX n h1 ∧ (∃ ex, as1 = as ++ ex) ∧ mj_Hp D b e0 as1 h1 (fun q => B0 ≤ q) t t.heap) ∧ va_F (fun q => B0 ≤ q) st t
/-- what the walk comes to at a return, and where it throws -/
def mj_E (M : mj_M) (Q : mj_Q) (p : Program) (l : Launch) (e : Env) (R : Room) (s : State) (m : MethodId) (args : Array Value) (below : List Frame) (meth : Method) (c : Code) (D : va_G) (b e0 B0 MC MS : Nat) (as0 : List Nat) (QQ : State → Prop) : Prop :=
  (∀ (as : List Nat) (H : Heap) (locs : List Loc) (ls : Array Slot) (cells slots pc : Nat) (v : Option Value) (lv : List Value) (h : mj_H), Q.1 v h → mj_rv M v → decode M.2.1 pc = .ok (mj_ri v, 1) →
    mj_St M 0 0 D b e0 B0 MC MS as0 as s H locs ls cells slots lv v.toList h → W p l e R s m args below meth c H locs cells slots QQ (F0 m pc ls (v.toList.map (mj_t as)))) ∧
  ∀ t : State, vx_MQ below (fun _ _ _ _ => False) (mj_XC D b e0 B0 as0 Q.2) args s MC MS (fun q => B0 ≤ q) t → QQ t
def mj_W (M : mj_M) (d mc ms : Nat) (Q : mj_Q) (pc : Nat) (lv st : List Value) (h : mj_H) : Prop :=
  ∀ (p : Program) (l : Launch) (e : Env) (R : Room) (s : State) (m : MethodId) (args : Array Value) (below : List Frame) (meth : Method) (c : Code) (D : va_G) (b e0 B0 MC MS : Nat) (as0 : List Nat) (QQ : State → Prop),
    mj_X M d b e0 B0 MC MS p l R s m args meth c → mj_E M Q p l e R s m args below meth c D b e0 B0 MC MS as0 QQ → ∀ (as : List Nat) (H : Heap) (locs : List Loc) (ls : Array Slot) (cells slots : Nat),
    mj_St M mc ms D b e0 B0 MC MS as0 as s H locs ls cells slots lv st h → W p l e R s m args below meth c H locs cells slots QQ (F0 m pc ls (st.map (mj_t as)))
/-- a throw of class n has come to pc -/
def mj_T (M : mj_M) (d mc ms : Nat) (Q : mj_Q) (pc : Nat) (lv : List Value) (n : Nat) (h : mj_H) : Prop :=
  ∀ (p : Program) (l : Launch) (e : Env) (R : Room) (s : State) (m : MethodId) (args : Array Value) (below : List Frame) (meth : Method) (c : Code) (D : va_G) (b e0 B0 MC MS : Nat) (as0 : List Nat) (QQ : State → Prop),
    mj_X M d b e0 B0 MC MS p l R s m args meth c → mj_E M Q p l e R s m args below meth c D b e0 B0 MC MS as0 QQ → ∀ (as : List Nat) (H : Heap) (locs : List Loc) (ls : Array Slot) (cells slots : Nat) (st : List Value) (q : Nat) (ce : Cell),
    mj_St M mc ms D b e0 B0 MC MS as0 as s H locs ls cells slots lv [] h → H[q]? = some ce → ce.vm = .none → s.vm.findClass (mj_xn n) = some ce.cls → vx_W p l e R s m args below meth c H locs cells slots QQ (F0 m pc ls st) q
def mj_Pc (D : va_G) (b e0 B0 : Nat) (as : List Nat) (args : List Value) (h : mj_H) : Array Value → State → Prop := fun a U =>
  a = (args.map (mj_t as)).toArray ∧ mj_Hp D b e0 as h (fun q => B0 ≤ q) U U.heap ∧ mj_oks h.1 args ∧ mj_XW U ∧ b < B0 ∧ B0 ≤ U.heap.size ∧ mj_S0 e0 (fun q => B0 ≤ q) U
def mj_Qc (D : va_G) (b e0 B0 : Nat) (as : List Nat) (Q : mj_Q) : Array Value → State → Outcome → State → Prop := fun _ st oc t =>
  (∃ (v : Option Value) (as1 : List Nat) (h1 : mj_H), oc = .returned (v.map (mj_t as1)) ∧ Q.1 v h1 ∧ (∃ ex, as1 = as ++ ex) ∧ mj_Hp D b e0 as1 h1 (fun q => B0 ≤ q) t t.heap ∧ mj_oks h1.1 v.toList) ∧ va_F (fun q => B0 ≤ q) st t
abbrev mj_ws (K : mj_M) : List Cond := Cond.code K.1 K.2.1 K.2.2.1 K.2.2.2.1 :: mj_TW
abbrev mj_wsH (K : mj_M) : List Cond := Cond.codeWith K.1 K.2.1 K.2.2.1 K.2.2.2.1 K.2.2.2.2.2.2 :: mj_TW
abbrev mj_rm (d mc ms : Nat) : Room := { frames := d, cells := mc, slots := ms, locals := 40 * d }
def mj_C (K : mj_M) (d mc ms : Nat) (args : List Value) (h : mj_H) (Q : mj_Q) : Prop :=
  ∀ (l : Launch), l.stackTraces = false → ∀ (D : va_G) (b e0 B0 : Nat) (as : List Nat), vx_Met l K.1 (mj_ws K) (mj_rm d mc ms) (mj_Pc D b e0 B0 as args h) (mj_Qc D b e0 B0 as Q) (mj_XC D b e0 B0 as Q.2) mc ms (fun q => B0 ≤ q)
/-- .. of a method with handlers -/
def mj_CH (K : mj_M) (d mc ms : Nat) (args : List Value) (h : mj_H) (Q : mj_Q) : Prop :=
  ∀ (l : Launch), l.stackTraces = false → ∀ (D : va_G) (b e0 B0 : Nat) (as : List Nat), vx_Met l K.1 (mj_wsH K) (mj_rm d mc ms) (mj_Pc D b e0 B0 as args h) (mj_Qc D b e0 B0 as Q) (mj_XC D b e0 B0 as Q.2) mc ms (fun q => B0 ≤ q)
theorem mj_lg_eq (x : Int64) : mj_lg (mj_lh x) (mj_ll x) = x := by
  unfold mj_lg mj_lh mj_ll
  have h1 := x.le_toInt
  have h2 := x.toInt_lt
  apply Int64.toInt_inj.mp
  rw [Int64.toInt_ofInt, Int32.toInt_ofInt, Int32.toInt_ofInt, Int32.size, Int64.size]
  have e1 : (x.toInt / 4294967296).bmod 4294967296 = x.toInt / 4294967296 := Int.bmod_eq_of_le (by omega) (by omega)
  have e2 : ((x.toInt % 4294967296).bmod 4294967296) % 4294967296 = x.toInt % 4294967296 := by
    have h := Int.bmod_emod (x := x.toInt % 4294967296) (m := 4294967296)
    rw [show ((4294967296 : Nat) : Int) = 4294967296 from rfl] at h
    rw [h]
    omega
  rw [e1, e2]
  have e3 : x.toInt / 4294967296 * 4294967296 + x.toInt % 4294967296 = x.toInt := by omega
  rw [e3]
  exact Int.bmod_eq_of_le (by omega) (by omega)
/-! lists -/
theorem mj_t_cat (as : List Nat) (v : Value) : (mj_t as v).category = v.category := by cases v <;> rfl
theorem mj_cats (as : List Nat) (st : List Value) : ((st.map (mj_t as)).map fun v => v.category).sum = (st.map fun v => v.category).sum := by
  induction st with
  | nil => rfl
  | cons v st ih => simp only [List.map_cons, List.sum_cons, ih, mj_t_cat]
theorem mj_ok_mono {n k : Nat} (hnk : n ≤ k) {v : Value} (h : mj_ok n v) : mj_ok k v := by
  cases v <;> first | trivial | exact Nat.lt_of_lt_of_le h hnk
theorem mj_oks_mono {n k : Nat} (hnk : n ≤ k) : ∀ {st : List Value}, mj_oks n st → mj_oks k st
  | [], _ => trivial
  | _ :: _, h => ⟨mj_ok_mono hnk h.1, mj_oks_mono hnk h.2⟩
theorem mj_oks_app {n : Nat} : ∀ {a b : List Value}, mj_oks n (a ++ b) ↔ mj_oks n a ∧ mj_oks n b
  | [], b => by simp [mj_oks]
  | v :: a, b => by simp [mj_oks, mj_oks_app (a := a) (b := b), and_assoc]
theorem mj_oks_rev {n : Nat} : ∀ {a : List Value}, mj_oks n a.reverse ↔ mj_oks n a
  | [] => by simp [mj_oks]
  | v :: a => by simp [mj_oks, mj_oks_app, mj_oks_rev (a := a), and_comm]
theorem mj_oks_get {n : Nat} : ∀ {lv : List Value} {i : Nat} {v : Value}, mj_oks n lv → lv[i]? = some v → mj_ok n v
  | [], i, v, _, h => by simp at h
  | w :: lv, 0, v, h, e => by simp at e; subst e; exact h.1
  | w :: lv, i + 1, v, h, e => by simp at e; exact mj_oks_get h.2 e
theorem mj_oks_set {n : Nat} : ∀ {lv : List Value} {i : Nat} {v : Value}, mj_oks n lv → mj_ok n v → mj_oks n (lv.set i v)
  | [], i, v, h, _ => h
  | w :: lv, 0, v, h, e => ⟨e, h.2⟩
  | w :: lv, i + 1, v, h, e => ⟨h.1, mj_oks_set h.2 e⟩
theorem mj_t_app {as ex : List Nat} {v : Value} (h : mj_ok as.length v) : mj_t (as ++ ex) v = mj_t as v := by
  cases v <;> first | rfl | skip
  rename_i k
  have hk : k < as.length := h
  show Value.ref _ = Value.ref _
  rw [List.getD_eq_getElem?_getD, List.getD_eq_getElem?_getD, List.getElem?_append_left hk]
theorem mj_ts_app {as ex : List Nat} : ∀ {st : List Value}, mj_oks as.length st → st.map (mj_t (as ++ ex)) = st.map (mj_t as)
  | [], _ => rfl
  | v :: st, h => by rw [List.map_cons, List.map_cons, mj_t_app h.1, mj_ts_app h.2]
theorem mj_al_mem {as : List Nat} : ∀ (lv : List Value) (i0 : Nat) (q : Nat × Value), q ∈ mj_al as i0 lv ↔ ∃ (i : Nat) (v : Value), lv[i]? = some v ∧ v ≠ .null ∧ q = (i0 + i, mj_t as v)
  | [], i0, q => by simp [mj_al]
  | w :: lv, i0, q => by
    have ih := mj_al_mem (as := as) lv (i0 + 1) q
    by_cases hw : w = .null
    · subst hw
      rw [show mj_al as i0 (.null :: lv) = mj_al as (i0 + 1) lv from rfl, ih]
      constructor
      · rintro ⟨i, v, h1, h2, h3⟩
        exact ⟨i + 1, v, by simpa using h1, h2, by rw [h3]; congr 1; omega⟩
      · rintro ⟨i, v, h1, h2, h3⟩
        cases i with
        | zero => simp at h1; exact absurd h1.symm h2
        | succ i => exact ⟨i, v, by simpa using h1, h2, by rw [h3]; congr 1; omega⟩
    · have e : mj_al as i0 (w :: lv) = (i0, mj_t as w) :: mj_al as (i0 + 1) lv := by
        cases w <;> first | rfl | exact absurd rfl hw
      rw [e, List.mem_cons, ih]
      constructor
      · rintro (h | ⟨i, v, h1, h2, h3⟩)
        · exact ⟨0, w, by simp, hw, by rw [h]; rfl⟩
        · exact ⟨i + 1, v, by simpa using h1, h2, by rw [h3]; congr 1; omega⟩
      · rintro ⟨i, v, h1, h2, h3⟩
        cases i with
        | zero => simp at h1; subst h1; exact Or.inl h3
        | succ i => exact Or.inr ⟨i, v, by simpa using h1, h2, by rw [h3]; congr 1; omega⟩
theorem mj_al_app {as ex : List Nat} : ∀ (lv : List Value) (i0 : Nat), mj_oks as.length lv → mj_al (as ++ ex) i0 lv = mj_al as i0 lv
  | [], _, _ => rfl
  | w :: lv, i0, h => by
    have ih := mj_al_app (ex := ex) lv (i0 + 1) h.2
    have hw := mj_t_app (ex := ex) h.1
    cases w <;> first | exact ih | (show _ :: _ = _ :: _; rw [ih]; first | rfl | (rw [show mj_t (as ++ ex) _ = _ from hw]))
theorem mj_at {ls : Array Slot} {nL : Nat} {as : List Nat} {lv : List Value} (h : lv_has ls nL (mj_al as 0 lv)) {i : Nat} {v : Value} (hv : lv[i]? = some v) (hn : v ≠ .null) : ls[i]? = some (.val (mj_t as v)) := by
  have := h.2.2 (i, mj_t as v) ((mj_al_mem lv 0 _).mpr ⟨i, v, hv, hn, by rw [Nat.zero_add]⟩)
  exact this
/-- a place ahead holds no long -/
def mj_c1 (lv : List Value) (i : Nat) : Bool := match i with
  | 0 => true
  | j + 1 => match lv[j]? with
    | some w => w.category == 1
    | none => true
theorem mj_c1_spec {lv : List Value} {i j : Nat} {w : Value} (h : mj_c1 lv i = true) (hj : j + 1 = i) (hw : lv[j]? = some w) : ¬ w.category = 2 := by
  subst hj
  simp only [mj_c1, hw] at h
  have : w.category = 1 := by simpa using h
  omega
theorem mj_has_sub {ls : Array Slot} {nL : Nat} {l l' : List (Nat × Value)} (h : lv_has ls nL l) (hs : ∀ q ∈ l', q ∈ l) : lv_has ls nL l' := ⟨h.1, h.2.1, fun q hq => h.2.2 q (hs q hq)⟩
theorem mj_store1 {as : List Nat} {lv : List Value} {i : Nat} {v : Value} (hc : mj_c1 lv i = true) : ∀ q ∈ mj_al as 0 (lv.set i v), q ∈ (i, mj_t as v) :: (mj_al as 0 lv).filter (fun q => !(q.1 == i) && !(q.1 + 1 == i && q.2.category == 2)) := by
  intro q hq
  obtain ⟨j, w, h1, h2, rfl⟩ := (mj_al_mem _ 0 q).mp hq
  rw [Nat.zero_add]
  rw [List.getElem?_set] at h1
  by_cases hj : i = j
  · subst hj
    rw [if_pos rfl] at h1
    split at h1
    · cases h1; exact List.mem_cons_self
    · cases h1
  · rw [if_neg hj] at h1
    refine List.mem_cons_of_mem _ (List.mem_filter.mpr ⟨(mj_al_mem lv 0 _).mpr ⟨j, w, h1, h2, by rw [Nat.zero_add]⟩, ?_⟩)
    have hne : ¬ j = i := fun e => hj e.symm
    by_cases hji : j + 1 = i
    · have := mj_c1_spec hc hji h1
      simp [hne, mj_t_cat, this]
    · simp [hne, hji]
theorem mj_store2 {as : List Nat} {lv : List Value} {i : Nat} {v : Value} (hc : mj_c1 lv i = true) : ∀ q ∈ mj_al as 0 ((lv.set i v).set (i + 1) .null), q ∈ (i, mj_t as v) :: (mj_al as 0 lv).filter (fun q => !(q.1 == i) && (!(q.1 == i + 1) && !(q.1 + 1 == i && q.2.category == 2))) := by
  intro q hq
  obtain ⟨j, w, h1, h2, rfl⟩ := (mj_al_mem _ 0 q).mp hq
  rw [Nat.zero_add]
  rw [List.getElem?_set] at h1
  by_cases hj1 : i + 1 = j
  · rw [if_pos hj1] at h1
    split at h1
    · cases h1; exact absurd rfl h2
    · cases h1
  · rw [if_neg hj1, List.getElem?_set] at h1
    by_cases hj : i = j
    · subst hj
      rw [if_pos rfl] at h1
      split at h1
      · cases h1; exact List.mem_cons_self
      · cases h1
    · rw [if_neg hj] at h1
      refine List.mem_cons_of_mem _ (List.mem_filter.mpr ⟨(mj_al_mem lv 0 _).mpr ⟨j, w, h1, h2, by rw [Nat.zero_add]⟩, ?_⟩)
      have hne : ¬ j = i := fun e => hj e.symm
      have hne1 : ¬ j = i + 1 := fun e => hj1 e.symm
      by_cases hji : j + 1 = i
      · have := mj_c1_spec hc hji h1
        simp [hne, hne1, mj_t_cat, this]
      · simp [hne, hne1, hji]
