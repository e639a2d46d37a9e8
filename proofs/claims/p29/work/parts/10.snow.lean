/-! SNOW: what a Snow is, its numbers, its methods -/
theorem mj_upn {α : Type} {f : Nat → Nat → α} {a k : Nat} {v : α} {b j : Nat} (h : b ≠ a) : mj_up f a k v b j = f b j := by unfold mj_up; rw [if_neg (fun z => h z.1)]
theorem mj_upr {α : Type} {f : Nat → Nat → α} {a k : Nat} {v : α} {b : Nat} (h : b ≠ a) : mj_up f a k v b = f b := by funext j; exact mj_upn h
theorem nI_1le {c : Nat} (h : c < 8) : (1 : Int32) ≤ nI (c + 1) := nI_le (a := 1) (by omega) (by omega)
theorem nI_0lt {c : Nat} (h : c < 8) : (0 : Int32) < nI (c + 1) := by rw [← nI_0]; exact nI_lt (by omega) (by omega)
section MJ6
variable {M : mj_M} {d mc ms : Nat} {Q : mj_Q} {pc q : Nat} {lv st : List Value} {n : Nat} {K : Nat → mj_K} {f : Nat → Nat → Int32} {g : Nat → Nat → Option Nat}
theorem mj_ialdn {a L i : Nat} (hd : decode M.2.1 pc = .ok (.iaload, 1)) (hq : pc + 1 = q) (hK : K a = (0, L, 0)) (hi : i < L ∧ L ≤ 1000) (k : mj_W M d mc ms Q q lv (.int (f a i) :: st) (n, K, f, g)) : mj_W M d mc ms Q pc lv (.int (nI i) :: .ref a :: st) (n, K, f, g) := by
  refine mj_iald hd hq hK (vp_in_nI hi.1 (by omega)) ?_
  rw [nI_clamp (by omega)]
  exact k
theorem mj_iastn {a L i : Nat} {v : Int32} (hd : decode M.2.1 pc = .ok (.iastore, 1)) (hq : pc + 1 = q) (hK : K a = (0, L, 0)) (hi : i < L ∧ L ≤ 1000) (k : mj_W M d mc ms Q q lv st (n, K, mj_up f a i v, g)) : mj_W M d mc ms Q pc lv (.int v :: .int (nI i) :: .ref a :: st) (n, K, f, g) := by
  refine mj_iast hd hq hK (vp_in_nI hi.1 (by omega)) ?_
  rw [nI_clamp (by omega)]
  exact k
theorem mj_aaldn {a L ci i r : Nat} (hd : decode M.2.1 pc = .ok (.aaload, 1)) (hq : pc + 1 = q) (hK : K a = (1, L, ci)) (hi : i < L ∧ L ≤ 1000) (hg : g a i = some r) (k : mj_W M d mc ms Q q lv (.ref r :: st) (n, K, f, g)) : mj_W M d mc ms Q pc lv (.int (nI i) :: .ref a :: st) (n, K, f, g) :=
  mj_aald hd hq hK (vp_in_nI hi.1 (by omega)) (by rw [nI_clamp (by omega)]; exact hg) k
end MJ6
/-- rows outside lo .. hi - 1 are as they were -/
def mj_Fr (lo hi : Nat) (f f1 : Nat → Nat → Int32) : Prop := ∀ a, a < lo ∨ hi ≤ a → f1 a = f a
theorem mj_Fr.rf {lo hi : Nat} {f : Nat → Nat → Int32} : mj_Fr lo hi f f := fun _ _ => rfl
theorem mj_Fr.tr {lo hi : Nat} {f f1 f2 : Nat → Nat → Int32} (h : mj_Fr lo hi f f1) (h2 : mj_Fr lo hi f1 f2) : mj_Fr lo hi f f2 := fun a ha => (h2 a ha).trans (h a ha)
theorem mj_Fr.wide {lo hi lo2 hi2 : Nat} {f f1 : Nat → Nat → Int32} (h : mj_Fr lo hi f f1) (h1 : lo2 ≤ lo) (h2 : hi ≤ hi2) : mj_Fr lo2 hi2 f f1 := fun a ha => h a (by omega)
theorem mj_Fr.up {lo hi a k : Nat} {v : Int32} {f f1 : Nat → Nat → Int32} (h : mj_Fr lo hi f f1) (h1 : lo ≤ a) (h2 : a < hi) : mj_Fr lo hi f (mj_up f1 a k v) := fun b hb => (mj_upr (by omega)).trans (h b hb)
/-- where a Snow lies: cells s, s + 1, s + 2, s + 3 -/
def LSn (K : Nat → mj_K) (g : Nat → Nat → Option Nat) (s : Nat) : Prop := K s = (2, 3, 0) ∧ K (s + 1) = (0, 8, 0) ∧ K (s + 2) = (0, 8, 0) ∧ K (s + 3) = (0, 8, 0) ∧ g s 0 = some (s + 1) ∧ g s 1 = some (s + 2) ∧ g s 2 = some (s + 3)
/-- its numbers: count, wet, snowed, depths, hardnesses, kinds -/
abbrev sV : Type := Nat × Int32 × Int32 × (Nat → Int32) × (Nat → Int32) × (Nat → Int32)
def SN (f : Nat → Nat → Int32) (s : Nat) (x : sV) : Prop := x.1 ≤ 8 ∧ f s 3 = nI x.1 ∧ f s 4 = x.2.1 ∧ f s 5 = x.2.2.1 ∧ (∀ k, k < 8 → f (s + 1) k = x.2.2.2.1 k) ∧ (∀ k, k < 8 → f (s + 2) k = x.2.2.2.2.1 k) ∧ (∀ k, k < 8 → f (s + 3) k = x.2.2.2.2.2 k) ∧ (x.2.1 = 0 ∨ x.2.1 = 1) ∧ (x.2.2.1 = 0 ∨ x.2.2.1 = 1)
theorem SN.keep {f f1 : Nat → Nat → Int32} {s lo hi : Nat} {x : sV} (h : SN f s x) (hf : mj_Fr lo hi f f1) (hd : s + 4 ≤ lo ∨ hi ≤ s) : SN f1 s x := by
  unfold SN
  rw [hf s (by omega), hf (s + 1) (by omega), hf (s + 2) (by omega), hf (s + 3) (by omega)]
  exact h
/-! what the methods do to these numbers -/
def vMin (x y : Int32) : Int32 := if y < x then y else x
def vMax (x y : Int32) : Int32 := if x < y then y else x
def vTop (w : Int32) (x : sV) : Bool := 0 < x.1 && x.2.2.2.2.2 (x.1 - 1) == w
def vSum (D : Nat → Int32) (lo : Nat) : Nat → Int32
  | 0 => 0
  | n + 1 => vSum D lo n + D (lo + n)
def vDepth (lo : Nat) (x : sV) : Int32 := vSum x.2.2.2.1 lo (x.1 - lo)
def vThicken (m : Int32) (x : sV) : sV := match x with
  | (0, r) => (0, r)
  | (c + 1, w, sn, D, H, T) => (c + 1, w, sn, upd D c (vMin (D c + m) 300), H, T)
def vThin (m : Int32) (x : sV) : sV := match x with
  | (0, r) => (0, r)
  | (c + 1, w, sn, D, H, T) => if 1 ≤ D c - m then (c + 1, w, sn, upd D c (D c - m), H, T) else (c, 0, sn, upd D c (D c - m), H, T)
def vMelt (m : Int32) (x : sV) : sV := match vThin m x with
  | (c, _, r) => (c, if 0 < c then 1 else 0, r)
def vJoin (x : sV) : sV := match x with
  | (c, w, sn, D, H, T) => (c - 1, w, sn, fun k => if k = 0 then vMin (D 0 + D 1) 300 else if k < 7 then D (k + 1) else D k, fun k => if k = 0 then vMin (H 0) (H 1) else if k < 7 then H (k + 1) else H k, fun k => if k = 0 then T 0 else if k < 7 then T (k + 1) else T k)
def vLayN (t dp hd : Int32) (x : sV) : sV := match x with
  | (c, _, sn, D, H, T) => (c + 1, 0, sn, upd D c dp, upd H c hd, upd T c t)
def vLay (t dp hd : Int32) (x : sV) : sV := vLayN t dp hd (if x.1 < 8 then x else vJoin x)
def vChange (t hd : Int32) (x : sV) : sV := match x with
  | (0, r) => (0, r)
  | (c + 1, w, sn, D, H, T) => (c + 1, w, sn, D, upd H c hd, upd T c t)
def vPress (x : sV) : sV := match x with
  | (c + 2, _, sn, D, H, T) => (c + 1, 0, sn, upd D c (vMin ((D c + D (c + 1)) * 9 / 10) 300), upd H c (vMin (vMax (H c) (H (c + 1)) + 10) 100), upd T c 3)
  | x => x
def vStress (l : Nat) (above slope : Int32) (x : sV) : Int32 := if x.2.2.2.2.1 l + 1 < 1 then 0 else
  let t := above * (slope - 20) / (x.2.2.2.2.1 l + 1)
  if x.2.2.2.2.2 l = 1 then 2 * t else t
def vShearL (slope : Int32) (x : sV) : Nat → Int32 → Int32 → Int32 → Int32
  | 0, sh, _, _ => sh
  | n + 1, sh, gr, ab => if 0 < vStress n ab slope x ∧ gr ≤ vStress n ab slope x then vShearL slope x n (nI n) (vStress n ab slope x) (ab + x.2.2.2.1 n) else vShearL slope x n sh gr (ab + x.2.2.2.1 n)
def vShear (slope : Int32) (x : sV) : Int32 := if 25 ≤ slope then vShearL slope x x.1 (-1) 0 0 else -1
def vDrop (lo : Int32) (x : sV) : sV := if lo = -1 then x else (lo.toNatClampNeg, 0, x.2.2)
def vSettle (noon : Int32) (x : sV) : sV := match x with
  | (c, w, sn, D, H, T) => (c, w, sn, D, fun k => if k < c ∧ (T k = 0 ∨ T k = 3 ∨ T k = 1 ∧ ¬ noon = 0) then vMin (H k + 1) 100 else H k, T)
def vRisk (slope : Int32) (x : sV) : Int32 := if vShear slope x = -1 then 0 else vMin (vStress (vShear slope x).toNatClampNeg (vDepth ((vShear slope x).toNatClampNeg + 1) x) slope x) 999
def vSnows (fall temp : Int32) : Bool := 0 < fall && temp ≤ 0
def vSet (b : Int32) (x : sV) : sV := (x.1, x.2.1, b, x.2.2.2)
def vCome (fall temp : Int32) (x : sV) : sV := vSet (if vSnows fall temp = true then 1 else 0)
  (if vSnows fall temp = true then (if ¬ x.2.2.1 = 0 ∧ vTop 0 x = true then vThicken fall x else vLay 0 fall 10 x) else if 0 < fall then vMelt fall x else x)
def vDrift (much lee win : Int32) (x : sV) : sV := if ¬ lee = 0 then (if vTop 0 x = true then vThicken much x else vLay 0 much 20 x) else if ¬ win = 0 ∧ vTop 0 x = true then vThin much x else x
def vWet0 (x : sV) : sV := (x.1, 0, x.2.2)
def vFreeze (x : sV) : sV := if x.2.1 = 0 then x else vWet0 (vChange 2 80 x)
def vWeak (x : sV) : sV := if vTop 0 x = true ∧ x.2.2.2.1 (x.1 - 1) ≤ 10 then vChange 1 5 x else x
theorem mj_bool {v : Int32} (h : v = 0 ∨ v = 1) : narrow .boolean (.int v) = .int v ∧ fits .boolean (.int v) = true := by rcases h with rfl | rfl <;> exact ⟨rfl, rfl⟩
theorem mj_b01 {p : Prop} [Decidable p] : (if p then (1 : Int32) else 0) = 0 ∨ (if p then (1 : Int32) else 0) = 1 := by by_cases h : p <;> simp [h]
theorem nI_dec (l : Nat) : nI l + Int32.ofInt (-1) = nI l - 1 := by rw [Int32.sub_eq_add_neg]; rfl
theorem nI_le0 {c : Nat} (h : c ≤ 8) : nI c ≤ 0 ↔ c = 0 := by
  rw [← nI_0, nI_leI (by omega) (by omega)]
  omega

set_option maxHeartbeats 4000000 in
set_option maxRecDepth 100000 in
theorem s_topIs {d s : Nat} {w0 : Int32} {n : Nat} {K : Nat → mj_K} {f : Nat → Nat → Int32} {g : Nat → Nat → Option Nat} {x : sV} (hL : LSn K g s) (hS : SN f s x) : mj_Ci m_X3_topIs d [.ref s, .int w0] (n, K, f, g) (fun r h1 => h1 = (n, K, f, g) ∧ r = if vTop w0 x = true then 1 else 0) := by
  obtain ⟨k0, k1, k2, k3, g0, g1, g2⟩ := hL
  obtain ⟨c, w, sn, D, H, T⟩ := x
  obtain ⟨b0, b1, b2, b3, b4, b5, b6, b7, b8⟩ := hS
  dsimp only at b0 b1 b2 b3 b4 b5 b6 b7 b8
  cases c with
  | zero =>
    refine mj_entry (by refine ⟨by decide +kernel, by decide, rfl, Nat.le_of_ble_eq_true rfl⟩) ?_
    show mj_W _ _ _ _ _ 0 [.ref s, .int w0] [] _
    refine mj_aload_n (i := 0) (q := 1) dX3_topIs_0 rfl rfl rfl ?_
    refine mj_getfv (q := 4) dX3_topIs_1 fl_X3_27 rfl rfl (by first | assumption | exact (mj_upn (by omega)).trans (by assumption) | exact (mj_upn (by omega)).trans ((mj_upn (by omega)).trans (by assumption)) | exact (mj_upn (by omega)).trans ((mj_upn (by omega)).trans ((mj_upn (by omega)).trans (by assumption)))) (by first | assumption | exact (mj_upn (by omega)).trans (by assumption) | exact (mj_upn (by omega)).trans ((mj_upn (by omega)).trans (by assumption)) | exact (mj_upn (by omega)).trans ((mj_upn (by omega)).trans ((mj_upn (by omega)).trans (by assumption)))) ?_
    refine mj_if_le (tgt := 26) (q := 7) dX3_topIs_4 (by decide) rfl (fun c_4 => ?_) (fun c_4 => absurd c_4 (by decide))
    refine mj_num1 (v := 0) (q := 27) rfl dX3_topIs_26 rfl ?_
    exact mj_ireturn dX3_topIs_27 ⟨_, rfl, rfl⟩ ⟨_, rfl, ⟨rfl, by simp [vTop]⟩⟩
  | succ c =>
    have hc : c < 8 := by omega
    refine mj_entry (by refine ⟨by decide +kernel, by decide, rfl, Nat.le_of_ble_eq_true rfl⟩) ?_
    show mj_W _ _ _ _ _ 0 [.ref s, .int w0] [] _
    refine mj_aload_n (i := 0) (q := 1) dX3_topIs_0 rfl rfl rfl ?_
    refine mj_getfv (q := 4) dX3_topIs_1 fl_X3_27 rfl rfl (by first | assumption | exact (mj_upn (by omega)).trans (by assumption) | exact (mj_upn (by omega)).trans ((mj_upn (by omega)).trans (by assumption)) | exact (mj_upn (by omega)).trans ((mj_upn (by omega)).trans ((mj_upn (by omega)).trans (by assumption)))) (by first | assumption | exact (mj_upn (by omega)).trans (by assumption) | exact (mj_upn (by omega)).trans ((mj_upn (by omega)).trans (by assumption)) | exact (mj_upn (by omega)).trans ((mj_upn (by omega)).trans ((mj_upn (by omega)).trans (by assumption)))) ?_
    refine mj_if_le (tgt := 26) (q := 7) dX3_topIs_4 (by decide) rfl (fun c_4 => absurd (nI_0lt hc) (Int32.not_lt.mpr c_4)) (fun c_4 => ?_)
    refine mj_aload_n (i := 0) (q := 8) dX3_topIs_7 rfl rfl rfl ?_
    refine mj_getr (q := 11) dX3_topIs_8 fl_X3_18 rfl rfl (by first | assumption | exact (mj_upn (by omega)).trans (by assumption) | exact (mj_upn (by omega)).trans ((mj_upn (by omega)).trans (by assumption)) | exact (mj_upn (by omega)).trans ((mj_upn (by omega)).trans ((mj_upn (by omega)).trans (by assumption)))) (by first | assumption | exact (mj_upn (by omega)).trans (by assumption) | exact (mj_upn (by omega)).trans ((mj_upn (by omega)).trans (by assumption)) | exact (mj_upn (by omega)).trans ((mj_upn (by omega)).trans ((mj_upn (by omega)).trans (by assumption)))) ?_
    refine mj_aload_n (i := 0) (q := 12) dX3_topIs_11 rfl rfl rfl ?_
    refine mj_getfv (q := 15) dX3_topIs_12 fl_X3_27 rfl rfl (by first | assumption | exact (mj_upn (by omega)).trans (by assumption) | exact (mj_upn (by omega)).trans ((mj_upn (by omega)).trans (by assumption)) | exact (mj_upn (by omega)).trans ((mj_upn (by omega)).trans ((mj_upn (by omega)).trans (by assumption)))) (by first | assumption | exact (mj_upn (by omega)).trans (by assumption) | exact (mj_upn (by omega)).trans ((mj_upn (by omega)).trans (by assumption)) | exact (mj_upn (by omega)).trans ((mj_upn (by omega)).trans ((mj_upn (by omega)).trans (by assumption)))) ?_
    refine mj_num1 (v := 1) (q := 16) rfl dX3_topIs_15 rfl ?_
    refine mj_isub (q := 17) dX3_topIs_16 rfl ?_
    refine mj_top (nI_pred c) ?_
    refine mj_ialdn (q := 18) dX3_topIs_17 rfl (by first | assumption | exact (mj_upn (by omega)).trans (by assumption) | exact (mj_upn (by omega)).trans ((mj_upn (by omega)).trans (by assumption)) | exact (mj_upn (by omega)).trans ((mj_upn (by omega)).trans ((mj_upn (by omega)).trans (by assumption)))) (by omega) ?_
    refine mj_iload_n (i := 1) (q := 19) dX3_topIs_18 rfl rfl rfl ?_
    refine mj_icmp_ne (tgt := 26) (q := 22) dX3_topIs_19 (by decide) rfl (fun c_19 => ?_) (fun c_19 => ?_)
    · refine mj_num1 (v := 0) (q := 27) rfl dX3_topIs_26 rfl ?_
      exact mj_ireturn dX3_topIs_27 ⟨_, rfl, rfl⟩ ⟨_, rfl, ⟨rfl, by rw [b6 c hc] at c_19; simp [vTop, c_19]⟩⟩
    · refine mj_num1 (v := 1) (q := 23) rfl dX3_topIs_22 rfl ?_
      refine mj_goto (q := 27) dX3_topIs_23 (by decide) ?_
      exact mj_ireturn dX3_topIs_27 ⟨_, rfl, rfl⟩ ⟨_, rfl, ⟨rfl, by rw [b6 c hc] at c_19; simp [vTop, c_19]⟩⟩
set_option maxHeartbeats 4000000 in
set_option maxRecDepth 100000 in
theorem s_thicken {d s : Nat} {m : Int32} {n : Nat} {K : Nat → mj_K} {f : Nat → Nat → Int32} {g : Nat → Nat → Option Nat} {x : sV} (hL : LSn K g s) (hS : SN f s x) : mj_Cv m_X3_thicken (d + 1) [.ref s, .int m] (n, K, f, g) (fun h1 => ∃ f1, h1 = (n, K, f1, g) ∧ SN f1 s (vThicken m x) ∧ mj_Fr s (s + 4) f f1) := by
  obtain ⟨k0, k1, k2, k3, g0, g1, g2⟩ := hL
  obtain ⟨c, w, sn, D, H, T⟩ := x
  obtain ⟨b0, b1, b2, b3, b4, b5, b6, b7, b8⟩ := hS
  dsimp only at b0 b1 b2 b3 b4 b5 b6 b7 b8
  cases c with
  | zero =>
    refine mj_entry (by refine ⟨by decide +kernel, by decide, rfl, Nat.le_of_ble_eq_true rfl⟩) ?_
    show mj_W _ _ _ _ _ 0 [.ref s, .int m] [] _
    refine mj_aload_n (i := 0) (q := 1) dX3_thicken_0 rfl rfl rfl ?_
    refine mj_getfv (q := 4) dX3_thicken_1 fl_X3_27 rfl rfl (by first | assumption | exact (mj_upn (by omega)).trans (by assumption) | exact (mj_upn (by omega)).trans ((mj_upn (by omega)).trans (by assumption)) | exact (mj_upn (by omega)).trans ((mj_upn (by omega)).trans ((mj_upn (by omega)).trans (by assumption)))) (by first | assumption | exact (mj_upn (by omega)).trans (by assumption) | exact (mj_upn (by omega)).trans ((mj_upn (by omega)).trans (by assumption)) | exact (mj_upn (by omega)).trans ((mj_upn (by omega)).trans ((mj_upn (by omega)).trans (by assumption)))) ?_
    refine mj_if_le (tgt := 37) (q := 7) dX3_thicken_4 (by decide) rfl (fun c_4 => ?_) (fun c_4 => absurd c_4 (by decide))
    exact mj_return dX3_thicken_37 rfl ⟨rfl, ⟨_, rfl, by refine ⟨by first | omega | (simp only [vThicken]; omega) | (simp [vThicken, b0, b1, b2, b3, b4, b5, b6, b7, b8] <;> omega), ?_, ?_, ?_, ?_, ?_, ?_, ?_, ?_⟩ <;> first | (intro k hk; simp [mj_up, upd, vThicken, b0, b1, b2, b3, b4, b5, b6, b7, b8, hk]; done) | (simp [mj_up, upd, vThicken, b0, b1, b2, b3, b4, b5, b6, b7, b8]; done), by repeat (first | exact mj_Fr.rf | exact (by assumption) | refine mj_Fr.up ?_ (by omega) (by omega))⟩⟩
  | succ c =>
    have hc : c < 8 := by omega
    refine mj_entry (by refine ⟨by decide +kernel, by decide, rfl, Nat.le_of_ble_eq_true rfl⟩) ?_
    show mj_W _ _ _ _ _ 0 [.ref s, .int m] [] _
    refine mj_aload_n (i := 0) (q := 1) dX3_thicken_0 rfl rfl rfl ?_
    refine mj_getfv (q := 4) dX3_thicken_1 fl_X3_27 rfl rfl (by first | assumption | exact (mj_upn (by omega)).trans (by assumption) | exact (mj_upn (by omega)).trans ((mj_upn (by omega)).trans (by assumption)) | exact (mj_upn (by omega)).trans ((mj_upn (by omega)).trans ((mj_upn (by omega)).trans (by assumption)))) (by first | assumption | exact (mj_upn (by omega)).trans (by assumption) | exact (mj_upn (by omega)).trans ((mj_upn (by omega)).trans (by assumption)) | exact (mj_upn (by omega)).trans ((mj_upn (by omega)).trans ((mj_upn (by omega)).trans (by assumption)))) ?_
    refine mj_if_le (tgt := 37) (q := 7) dX3_thicken_4 (by decide) rfl (fun c_4 => absurd (nI_0lt hc) (Int32.not_lt.mpr c_4)) (fun c_4 => ?_)
    refine mj_aload_n (i := 0) (q := 8) dX3_thicken_7 rfl rfl rfl ?_
    refine mj_getr (q := 11) dX3_thicken_8 fl_X3_9 rfl rfl (by first | assumption | exact (mj_upn (by omega)).trans (by assumption) | exact (mj_upn (by omega)).trans ((mj_upn (by omega)).trans (by assumption)) | exact (mj_upn (by omega)).trans ((mj_upn (by omega)).trans ((mj_upn (by omega)).trans (by assumption)))) (by first | assumption | exact (mj_upn (by omega)).trans (by assumption) | exact (mj_upn (by omega)).trans ((mj_upn (by omega)).trans (by assumption)) | exact (mj_upn (by omega)).trans ((mj_upn (by omega)).trans ((mj_upn (by omega)).trans (by assumption)))) ?_
    refine mj_aload_n (i := 0) (q := 12) dX3_thicken_11 rfl rfl rfl ?_
    refine mj_getfv (q := 15) dX3_thicken_12 fl_X3_27 rfl rfl (by first | assumption | exact (mj_upn (by omega)).trans (by assumption) | exact (mj_upn (by omega)).trans ((mj_upn (by omega)).trans (by assumption)) | exact (mj_upn (by omega)).trans ((mj_upn (by omega)).trans ((mj_upn (by omega)).trans (by assumption)))) (by first | assumption | exact (mj_upn (by omega)).trans (by assumption) | exact (mj_upn (by omega)).trans ((mj_upn (by omega)).trans (by assumption)) | exact (mj_upn (by omega)).trans ((mj_upn (by omega)).trans ((mj_upn (by omega)).trans (by assumption)))) ?_
    refine mj_num1 (v := 1) (q := 16) rfl dX3_thicken_15 rfl ?_
    refine mj_isub (q := 17) dX3_thicken_16 rfl ?_
    refine mj_top (nI_pred c) ?_
    refine mj_aload_n (i := 0) (q := 18) dX3_thicken_17 rfl rfl rfl ?_
    refine mj_getr (q := 21) dX3_thicken_18 fl_X3_9 rfl rfl (by first | assumption | exact (mj_upn (by omega)).trans (by assumption) | exact (mj_upn (by omega)).trans ((mj_upn (by omega)).trans (by assumption)) | exact (mj_upn (by omega)).trans ((mj_upn (by omega)).trans ((mj_upn (by omega)).trans (by assumption)))) (by first | assumption | exact (mj_upn (by omega)).trans (by assumption) | exact (mj_upn (by omega)).trans ((mj_upn (by omega)).trans (by assumption)) | exact (mj_upn (by omega)).trans ((mj_upn (by omega)).trans ((mj_upn (by omega)).trans (by assumption)))) ?_
    refine mj_aload_n (i := 0) (q := 22) dX3_thicken_21 rfl rfl rfl ?_
    refine mj_getfv (q := 25) dX3_thicken_22 fl_X3_27 rfl rfl (by first | assumption | exact (mj_upn (by omega)).trans (by assumption) | exact (mj_upn (by omega)).trans ((mj_upn (by omega)).trans (by assumption)) | exact (mj_upn (by omega)).trans ((mj_upn (by omega)).trans ((mj_upn (by omega)).trans (by assumption)))) (by first | assumption | exact (mj_upn (by omega)).trans (by assumption) | exact (mj_upn (by omega)).trans ((mj_upn (by omega)).trans (by assumption)) | exact (mj_upn (by omega)).trans ((mj_upn (by omega)).trans ((mj_upn (by omega)).trans (by assumption)))) ?_
    refine mj_num1 (v := 1) (q := 26) rfl dX3_thicken_25 rfl ?_
    refine mj_isub (q := 27) dX3_thicken_26 rfl ?_
    refine mj_top (nI_pred c) ?_
    refine mj_ialdn (q := 28) dX3_thicken_27 rfl (by first | assumption | exact (mj_upn (by omega)).trans (by assumption) | exact (mj_upn (by omega)).trans ((mj_upn (by omega)).trans (by assumption)) | exact (mj_upn (by omega)).trans ((mj_upn (by omega)).trans ((mj_upn (by omega)).trans (by assumption)))) (by omega) ?_
    refine mj_iload_n (i := 1) (q := 29) dX3_thicken_28 rfl rfl rfl ?_
    refine mj_iadd (q := 30) dX3_thicken_29 rfl ?_
    refine mj_num3 (v := 300) (q := 33) (by decide) dX3_thicken_30 rfl ?_
    refine mj_mmin (q := 36) dX3_thicken_33 ln_X3_48 (Nat.le_of_ble_eq_true rfl) rfl ?_
    refine mj_iastn (q := 37) dX3_thicken_36 rfl (by first | assumption | exact (mj_upn (by omega)).trans (by assumption) | exact (mj_upn (by omega)).trans ((mj_upn (by omega)).trans (by assumption)) | exact (mj_upn (by omega)).trans ((mj_upn (by omega)).trans ((mj_upn (by omega)).trans (by assumption)))) (by omega) ?_
    exact mj_return dX3_thicken_37 rfl ⟨rfl, ⟨_, rfl, by refine ⟨by first | omega | (simp only [vThicken]; omega) | (simp [vThicken, b0, b1, b2, b3, b4, b5, b6, b7, b8, b4 c hc, vMin] <;> omega), ?_, ?_, ?_, ?_, ?_, ?_, ?_, ?_⟩ <;> first | (intro k hk; simp [mj_up, upd, vThicken, b0, b1, b2, b3, b4, b5, b6, b7, b8, b4 c hc, vMin, hk]; done) | (simp [mj_up, upd, vThicken, b0, b1, b2, b3, b4, b5, b6, b7, b8, b4 c hc, vMin]; done), by repeat (first | exact mj_Fr.rf | exact (by assumption) | refine mj_Fr.up ?_ (by omega) (by omega))⟩⟩
set_option maxHeartbeats 4000000 in
set_option maxRecDepth 100000 in
theorem s_thin {d s : Nat} {m : Int32} {n : Nat} {K : Nat → mj_K} {f : Nat → Nat → Int32} {g : Nat → Nat → Option Nat} {x : sV} (hL : LSn K g s) (hS : SN f s x) : mj_Cv m_X3_thin d [.ref s, .int m] (n, K, f, g) (fun h1 => ∃ f1, h1 = (n, K, f1, g) ∧ SN f1 s (vThin m x) ∧ mj_Fr s (s + 4) f f1) := by
  obtain ⟨k0, k1, k2, k3, g0, g1, g2⟩ := hL
  obtain ⟨c, w, sn, D, H, T⟩ := x
  obtain ⟨b0, b1, b2, b3, b4, b5, b6, b7, b8⟩ := hS
  dsimp only at b0 b1 b2 b3 b4 b5 b6 b7 b8
  cases c with
  | zero =>
    refine mj_entry (by refine ⟨by decide +kernel, by decide, rfl, Nat.le_of_ble_eq_true rfl⟩) ?_
    show mj_W _ _ _ _ _ 0 [.ref s, .int m] [] _
    refine mj_aload_n (i := 0) (q := 1) dX3_thin_0 rfl rfl rfl ?_
    refine mj_getfv (q := 4) dX3_thin_1 fl_X3_27 rfl rfl (by first | assumption | exact (mj_upn (by omega)).trans (by assumption) | exact (mj_upn (by omega)).trans ((mj_upn (by omega)).trans (by assumption)) | exact (mj_upn (by omega)).trans ((mj_upn (by omega)).trans ((mj_upn (by omega)).trans (by assumption)))) (by first | assumption | exact (mj_upn (by omega)).trans (by assumption) | exact (mj_upn (by omega)).trans ((mj_upn (by omega)).trans (by assumption)) | exact (mj_upn (by omega)).trans ((mj_upn (by omega)).trans ((mj_upn (by omega)).trans (by assumption)))) ?_
    refine mj_num1 (v := 1) (q := 5) rfl dX3_thin_4 rfl ?_
    refine mj_icmp_ge (tgt := 9) (q := 8) dX3_thin_5 (by decide) rfl (fun c_5 => absurd c_5 (by decide)) (fun c_5 => ?_)
    exact mj_return dX3_thin_8 rfl ⟨rfl, ⟨_, rfl, by refine ⟨by first | omega | (simp only [vThin]; omega) | (simp [vThin, b0, b1, b2, b3, b4, b5, b6, b7, b8] <;> omega), ?_, ?_, ?_, ?_, ?_, ?_, ?_, ?_⟩ <;> first | (intro k hk; simp [mj_up, upd, vThin, b0, b1, b2, b3, b4, b5, b6, b7, b8, hk]; done) | (simp [mj_up, upd, vThin, b0, b1, b2, b3, b4, b5, b6, b7, b8]; done), by repeat (first | exact mj_Fr.rf | exact (by assumption) | refine mj_Fr.up ?_ (by omega) (by omega))⟩⟩
  | succ c =>
    have hc : c < 8 := by omega
    refine mj_entry (by refine ⟨by decide +kernel, by decide, rfl, Nat.le_of_ble_eq_true rfl⟩) ?_
    show mj_W _ _ _ _ _ 0 [.ref s, .int m] [] _
    refine mj_aload_n (i := 0) (q := 1) dX3_thin_0 rfl rfl rfl ?_
    refine mj_getfv (q := 4) dX3_thin_1 fl_X3_27 rfl rfl (by first | assumption | exact (mj_upn (by omega)).trans (by assumption) | exact (mj_upn (by omega)).trans ((mj_upn (by omega)).trans (by assumption)) | exact (mj_upn (by omega)).trans ((mj_upn (by omega)).trans ((mj_upn (by omega)).trans (by assumption)))) (by first | assumption | exact (mj_upn (by omega)).trans (by assumption) | exact (mj_upn (by omega)).trans ((mj_upn (by omega)).trans (by assumption)) | exact (mj_upn (by omega)).trans ((mj_upn (by omega)).trans ((mj_upn (by omega)).trans (by assumption)))) ?_
    refine mj_num1 (v := 1) (q := 5) rfl dX3_thin_4 rfl ?_
    refine mj_icmp_ge (tgt := 9) (q := 8) dX3_thin_5 (by decide) rfl (fun c_5 => ?_) (fun c_5 => absurd (nI_1le hc) c_5)
    refine mj_aload_n (i := 0) (q := 10) dX3_thin_9 rfl rfl rfl ?_
    refine mj_getr (q := 13) dX3_thin_10 fl_X3_9 rfl rfl (by first | assumption | exact (mj_upn (by omega)).trans (by assumption) | exact (mj_upn (by omega)).trans ((mj_upn (by omega)).trans (by assumption)) | exact (mj_upn (by omega)).trans ((mj_upn (by omega)).trans ((mj_upn (by omega)).trans (by assumption)))) (by first | assumption | exact (mj_upn (by omega)).trans (by assumption) | exact (mj_upn (by omega)).trans ((mj_upn (by omega)).trans (by assumption)) | exact (mj_upn (by omega)).trans ((mj_upn (by omega)).trans ((mj_upn (by omega)).trans (by assumption)))) ?_
    refine mj_aload_n (i := 0) (q := 14) dX3_thin_13 rfl rfl rfl ?_
    refine mj_getfv (q := 17) dX3_thin_14 fl_X3_27 rfl rfl (by first | assumption | exact (mj_upn (by omega)).trans (by assumption) | exact (mj_upn (by omega)).trans ((mj_upn (by omega)).trans (by assumption)) | exact (mj_upn (by omega)).trans ((mj_upn (by omega)).trans ((mj_upn (by omega)).trans (by assumption)))) (by first | assumption | exact (mj_upn (by omega)).trans (by assumption) | exact (mj_upn (by omega)).trans ((mj_upn (by omega)).trans (by assumption)) | exact (mj_upn (by omega)).trans ((mj_upn (by omega)).trans ((mj_upn (by omega)).trans (by assumption)))) ?_
    refine mj_num1 (v := 1) (q := 18) rfl dX3_thin_17 rfl ?_
    refine mj_isub (q := 19) dX3_thin_18 rfl ?_
    refine mj_top (nI_pred c) ?_
    refine mj_dup2 (q := 20) rfl rfl dX3_thin_19 rfl ?_
    refine mj_ialdn (q := 21) dX3_thin_20 rfl (by first | assumption | exact (mj_upn (by omega)).trans (by assumption) | exact (mj_upn (by omega)).trans ((mj_upn (by omega)).trans (by assumption)) | exact (mj_upn (by omega)).trans ((mj_upn (by omega)).trans ((mj_upn (by omega)).trans (by assumption)))) (by omega) ?_
    refine mj_iload_n (i := 1) (q := 22) dX3_thin_21 rfl rfl rfl ?_
    refine mj_isub (q := 23) dX3_thin_22 rfl ?_
    refine mj_iastn (q := 24) dX3_thin_23 rfl (by first | assumption | exact (mj_upn (by omega)).trans (by assumption) | exact (mj_upn (by omega)).trans ((mj_upn (by omega)).trans (by assumption)) | exact (mj_upn (by omega)).trans ((mj_upn (by omega)).trans ((mj_upn (by omega)).trans (by assumption)))) (by omega) ?_
    refine mj_aload_n (i := 0) (q := 25) dX3_thin_24 rfl rfl rfl ?_
    refine mj_getr (q := 28) dX3_thin_25 fl_X3_9 rfl rfl (by first | assumption | exact (mj_upn (by omega)).trans (by assumption) | exact (mj_upn (by omega)).trans ((mj_upn (by omega)).trans (by assumption)) | exact (mj_upn (by omega)).trans ((mj_upn (by omega)).trans ((mj_upn (by omega)).trans (by assumption)))) (by first | assumption | exact (mj_upn (by omega)).trans (by assumption) | exact (mj_upn (by omega)).trans ((mj_upn (by omega)).trans (by assumption)) | exact (mj_upn (by omega)).trans ((mj_upn (by omega)).trans ((mj_upn (by omega)).trans (by assumption)))) ?_
    refine mj_aload_n (i := 0) (q := 29) dX3_thin_28 rfl rfl rfl ?_
    refine mj_getfv (q := 32) dX3_thin_29 fl_X3_27 rfl rfl (by first | assumption | exact (mj_upn (by omega)).trans (by assumption) | exact (mj_upn (by omega)).trans ((mj_upn (by omega)).trans (by assumption)) | exact (mj_upn (by omega)).trans ((mj_upn (by omega)).trans ((mj_upn (by omega)).trans (by assumption)))) (by first | assumption | exact (mj_upn (by omega)).trans (by assumption) | exact (mj_upn (by omega)).trans ((mj_upn (by omega)).trans (by assumption)) | exact (mj_upn (by omega)).trans ((mj_upn (by omega)).trans ((mj_upn (by omega)).trans (by assumption)))) ?_
    refine mj_num1 (v := 1) (q := 33) rfl dX3_thin_32 rfl ?_
    refine mj_isub (q := 34) dX3_thin_33 rfl ?_
    refine mj_top (nI_pred c) ?_
    refine mj_ialdn (q := 35) dX3_thin_34 rfl (by first | assumption | exact (mj_upn (by omega)).trans (by assumption) | exact (mj_upn (by omega)).trans ((mj_upn (by omega)).trans (by assumption)) | exact (mj_upn (by omega)).trans ((mj_upn (by omega)).trans ((mj_upn (by omega)).trans (by assumption)))) (by omega) ?_
    refine mj_top (y := D c - m) (by simp [mj_up, b4 c hc]) ?_
    refine mj_num1 (v := 1) (q := 36) rfl dX3_thin_35 rfl ?_
    refine mj_icmp_ge (tgt := 54) (q := 39) dX3_thin_36 (by decide) rfl (fun c_36 => ?_) (fun c_36 => ?_)
    · exact mj_return dX3_thin_54 rfl ⟨rfl, ⟨_, rfl, by refine ⟨by first | omega | (simp only [vThin]; omega) | (simp [vThin, b0, b1, b2, b3, b4, b5, b6, b7, b8, c_36, b4 c hc] <;> omega), ?_, ?_, ?_, ?_, ?_, ?_, ?_, ?_⟩ <;> first | (intro k hk; simp [mj_up, upd, vThin, b0, b1, b2, b3, b4, b5, b6, b7, b8, c_36, b4 c hc, hk]; done) | (simp [mj_up, upd, vThin, b0, b1, b2, b3, b4, b5, b6, b7, b8, c_36, b4 c hc]; done), by repeat (first | exact mj_Fr.rf | exact (by assumption) | refine mj_Fr.up ?_ (by omega) (by omega))⟩⟩
    · refine mj_aload_n (i := 0) (q := 40) dX3_thin_39 rfl rfl rfl ?_
      refine mj_dup (q := 41) rfl dX3_thin_40 rfl ?_
      refine mj_getfv (q := 44) dX3_thin_41 fl_X3_27 rfl rfl (by first | assumption | exact (mj_upn (by omega)).trans (by assumption) | exact (mj_upn (by omega)).trans ((mj_upn (by omega)).trans (by assumption)) | exact (mj_upn (by omega)).trans ((mj_upn (by omega)).trans ((mj_upn (by omega)).trans (by assumption)))) (by first | assumption | exact (mj_upn (by omega)).trans (by assumption) | exact (mj_upn (by omega)).trans ((mj_upn (by omega)).trans (by assumption)) | exact (mj_upn (by omega)).trans ((mj_upn (by omega)).trans ((mj_upn (by omega)).trans (by assumption)))) ?_
      refine mj_num1 (v := 1) (q := 45) rfl dX3_thin_44 rfl ?_
      refine mj_isub (q := 46) dX3_thin_45 rfl ?_
      refine mj_top (nI_pred c) ?_
      refine mj_putf (q := 49) dX3_thin_46 fl_X3_27 rfl rfl (by first | assumption | exact (mj_upn (by omega)).trans (by assumption) | exact (mj_upn (by omega)).trans ((mj_upn (by omega)).trans (by assumption)) | exact (mj_upn (by omega)).trans ((mj_upn (by omega)).trans ((mj_upn (by omega)).trans (by assumption)))) rfl rfl rfl ?_
      refine mj_aload_n (i := 0) (q := 50) dX3_thin_49 rfl rfl rfl ?_
      refine mj_num1 (v := 0) (q := 51) rfl dX3_thin_50 rfl ?_
      refine mj_putf (q := 54) dX3_thin_51 fl_X3_31 rfl rfl (by first | assumption | exact (mj_upn (by omega)).trans (by assumption) | exact (mj_upn (by omega)).trans ((mj_upn (by omega)).trans (by assumption)) | exact (mj_upn (by omega)).trans ((mj_upn (by omega)).trans ((mj_upn (by omega)).trans (by assumption)))) rfl rfl rfl ?_
      exact mj_return dX3_thin_54 rfl ⟨rfl, ⟨_, rfl, by refine ⟨by first | omega | (simp only [vThin]; omega) | (simp [vThin, b0, b1, b2, b3, b4, b5, b6, b7, b8, c_36, b4 c hc] <;> omega), ?_, ?_, ?_, ?_, ?_, ?_, ?_, ?_⟩ <;> first | (intro k hk; simp [mj_up, upd, vThin, b0, b1, b2, b3, b4, b5, b6, b7, b8, c_36, b4 c hc, hk]; done) | (simp [mj_up, upd, vThin, b0, b1, b2, b3, b4, b5, b6, b7, b8, c_36, b4 c hc]; done), by repeat (first | exact mj_Fr.rf | exact (by assumption) | refine mj_Fr.up ?_ (by omega) (by omega))⟩⟩
set_option maxHeartbeats 4000000 in
set_option maxRecDepth 100000 in
theorem s_melt {d s : Nat} {m : Int32} {n : Nat} {K : Nat → mj_K} {f : Nat → Nat → Int32} {g : Nat → Nat → Option Nat} {x : sV} (hL : LSn K g s) (hS : SN f s x) : mj_Cv m_X3_melt (d + 1) [.ref s, .int m] (n, K, f, g) (fun h1 => ∃ f1, h1 = (n, K, f1, g) ∧ SN f1 s (vMelt m x) ∧ mj_Fr s (s + 4) f f1) := by
  have hL2 := hL
  obtain ⟨k0, k1, k2, k3, g0, g1, g2⟩ := hL
  refine mj_entry (by refine ⟨by decide +kernel, by decide, rfl, Nat.le_of_ble_eq_true rfl⟩) ?_
  show mj_W _ _ _ _ _ 0 [.ref s, .int m] [] _
  refine mj_aload_n (i := 0) (q := 1) dX3_melt_0 rfl rfl rfl ?_
  refine mj_iload_n (i := 1) (q := 2) dX3_melt_1 rfl rfl rfl ?_
  refine mj_cV1v (K := m_X3_thin) (q := 5) dX3_melt_2 ln_X3_51 ok_X3_thin (Nat.le_of_ble_eq_true rfl) (by decide) (by first | assumption | exact (mj_upn (by omega)).trans (by assumption) | exact (mj_upn (by omega)).trans ((mj_upn (by omega)).trans (by assumption)) | exact (mj_upn (by omega)).trans ((mj_upn (by omega)).trans ((mj_upn (by omega)).trans (by assumption)))) rfl rfl (s_thin hL2 hS) (fun h1 hq => ?_)
  obtain ⟨f1, rfl, hS1, hF1⟩ := hq
  generalize hx : vThin m x = y at hS1
  obtain ⟨c, w, sn, D, H, T⟩ := y
  obtain ⟨b0, b1, b2, b3, b4, b5, b6, b7, b8⟩ := hS1
  dsimp only at b0 b1 b2 b3 b4 b5 b6 b7 b8
  have hz := nI_le0 b0
  refine mj_aload_n (i := 0) (q := 6) dX3_melt_5 rfl rfl rfl ?_
  refine mj_aload_n (i := 0) (q := 7) dX3_melt_6 rfl rfl rfl ?_
  refine mj_getfv (q := 10) dX3_melt_7 fl_X3_27 rfl rfl (by first | assumption | exact (mj_upn (by omega)).trans (by assumption) | exact (mj_upn (by omega)).trans ((mj_upn (by omega)).trans (by assumption)) | exact (mj_upn (by omega)).trans ((mj_upn (by omega)).trans ((mj_upn (by omega)).trans (by assumption)))) (by first | assumption | exact (mj_upn (by omega)).trans (by assumption) | exact (mj_upn (by omega)).trans ((mj_upn (by omega)).trans (by assumption)) | exact (mj_upn (by omega)).trans ((mj_upn (by omega)).trans ((mj_upn (by omega)).trans (by assumption)))) ?_
  refine mj_if_le (tgt := 17) (q := 13) dX3_melt_10 (by decide) rfl (fun c_10 => ?_) (fun c_10 => ?_)
  · refine mj_num1 (v := 0) (q := 18) rfl dX3_melt_17 rfl ?_
    refine mj_putf (q := 21) dX3_melt_18 fl_X3_31 rfl rfl (by first | assumption | exact (mj_upn (by omega)).trans (by assumption) | exact (mj_upn (by omega)).trans ((mj_upn (by omega)).trans (by assumption)) | exact (mj_upn (by omega)).trans ((mj_upn (by omega)).trans ((mj_upn (by omega)).trans (by assumption)))) rfl rfl rfl ?_
    exact mj_return dX3_melt_21 rfl ⟨rfl, ⟨_, rfl, by rw [hz] at c_10; simp only [vMelt, hx]; refine ⟨b0, ?_, ?_, ?_, ?_, ?_, ?_, ?_, b8⟩ <;> first | (intro k hk; simp [mj_up, upd, b1, b2, b3, b4, b5, b6, hk]; done) | (simp [mj_up, upd, b1, b2, b3, c_10, Nat.pos_iff_ne_zero]; done), by repeat (first | exact mj_Fr.rf | exact (by assumption) | refine mj_Fr.up ?_ (by omega) (by omega))⟩⟩
  · refine mj_num1 (v := 1) (q := 14) rfl dX3_melt_13 rfl ?_
    refine mj_goto (q := 18) dX3_melt_14 (by decide) ?_
    refine mj_putf (q := 21) dX3_melt_18 fl_X3_31 rfl rfl (by first | assumption | exact (mj_upn (by omega)).trans (by assumption) | exact (mj_upn (by omega)).trans ((mj_upn (by omega)).trans (by assumption)) | exact (mj_upn (by omega)).trans ((mj_upn (by omega)).trans ((mj_upn (by omega)).trans (by assumption)))) rfl rfl rfl ?_
    exact mj_return dX3_melt_21 rfl ⟨rfl, ⟨_, rfl, by rw [hz] at c_10; simp only [vMelt, hx]; refine ⟨b0, ?_, ?_, ?_, ?_, ?_, ?_, ?_, b8⟩ <;> first | (intro k hk; simp [mj_up, upd, b1, b2, b3, b4, b5, b6, hk]; done) | (simp [mj_up, upd, b1, b2, b3, c_10, Nat.pos_iff_ne_zero]; done), by repeat (first | exact mj_Fr.rf | exact (by assumption) | refine mj_Fr.up ?_ (by omega) (by omega))⟩⟩
set_option maxHeartbeats 4000000 in
set_option maxRecDepth 100000 in
theorem s_changeTop {d s : Nat} {t hd0 : Int32} {n : Nat} {K : Nat → mj_K} {f : Nat → Nat → Int32} {g : Nat → Nat → Option Nat} {x : sV} (hL : LSn K g s) (hS : SN f s x) : mj_Cv m_X3_changeTop d [.ref s, .int t, .int hd0] (n, K, f, g) (fun h1 => ∃ f1, h1 = (n, K, f1, g) ∧ SN f1 s (vChange t hd0 x) ∧ mj_Fr s (s + 4) f f1) := by
  obtain ⟨k0, k1, k2, k3, g0, g1, g2⟩ := hL
  obtain ⟨c, w, sn, D, H, T⟩ := x
  obtain ⟨b0, b1, b2, b3, b4, b5, b6, b7, b8⟩ := hS
  dsimp only at b0 b1 b2 b3 b4 b5 b6 b7 b8
  cases c with
  | zero =>
    refine mj_entry (by refine ⟨by decide +kernel, by decide, rfl, Nat.le_of_ble_eq_true rfl⟩) ?_
    show mj_W _ _ _ _ _ 0 [.ref s, .int t, .int hd0] [] _
    refine mj_aload_n (i := 0) (q := 1) dX3_changeTop_0 rfl rfl rfl ?_
    refine mj_getfv (q := 4) dX3_changeTop_1 fl_X3_27 rfl rfl (by first | assumption | exact (mj_upn (by omega)).trans (by assumption) | exact (mj_upn (by omega)).trans ((mj_upn (by omega)).trans (by assumption)) | exact (mj_upn (by omega)).trans ((mj_upn (by omega)).trans ((mj_upn (by omega)).trans (by assumption)))) (by first | assumption | exact (mj_upn (by omega)).trans (by assumption) | exact (mj_upn (by omega)).trans ((mj_upn (by omega)).trans (by assumption)) | exact (mj_upn (by omega)).trans ((mj_upn (by omega)).trans ((mj_upn (by omega)).trans (by assumption)))) ?_
    refine mj_if_le (tgt := 31) (q := 7) dX3_changeTop_4 (by decide) rfl (fun c_4 => ?_) (fun c_4 => absurd c_4 (by decide))
    exact mj_return dX3_changeTop_31 rfl ⟨rfl, ⟨_, rfl, by refine ⟨by first | omega | (simp only [vChange]; omega) | (simp [vChange, b0, b1, b2, b3, b4, b5, b6, b7, b8] <;> omega), ?_, ?_, ?_, ?_, ?_, ?_, ?_, ?_⟩ <;> first | (intro k hk; simp [mj_up, upd, vChange, b0, b1, b2, b3, b4, b5, b6, b7, b8, hk]; done) | (simp [mj_up, upd, vChange, b0, b1, b2, b3, b4, b5, b6, b7, b8]; done), by repeat (first | exact mj_Fr.rf | exact (by assumption) | refine mj_Fr.up ?_ (by omega) (by omega))⟩⟩
  | succ c =>
    have hc : c < 8 := by omega
    refine mj_entry (by refine ⟨by decide +kernel, by decide, rfl, Nat.le_of_ble_eq_true rfl⟩) ?_
    show mj_W _ _ _ _ _ 0 [.ref s, .int t, .int hd0] [] _
    refine mj_aload_n (i := 0) (q := 1) dX3_changeTop_0 rfl rfl rfl ?_
    refine mj_getfv (q := 4) dX3_changeTop_1 fl_X3_27 rfl rfl (by first | assumption | exact (mj_upn (by omega)).trans (by assumption) | exact (mj_upn (by omega)).trans ((mj_upn (by omega)).trans (by assumption)) | exact (mj_upn (by omega)).trans ((mj_upn (by omega)).trans ((mj_upn (by omega)).trans (by assumption)))) (by first | assumption | exact (mj_upn (by omega)).trans (by assumption) | exact (mj_upn (by omega)).trans ((mj_upn (by omega)).trans (by assumption)) | exact (mj_upn (by omega)).trans ((mj_upn (by omega)).trans ((mj_upn (by omega)).trans (by assumption)))) ?_
    refine mj_if_le (tgt := 31) (q := 7) dX3_changeTop_4 (by decide) rfl (fun c_4 => absurd (nI_0lt hc) (Int32.not_lt.mpr c_4)) (fun c_4 => ?_)
    refine mj_aload_n (i := 0) (q := 8) dX3_changeTop_7 rfl rfl rfl ?_
    refine mj_getr (q := 11) dX3_changeTop_8 fl_X3_18 rfl rfl (by first | assumption | exact (mj_upn (by omega)).trans (by assumption) | exact (mj_upn (by omega)).trans ((mj_upn (by omega)).trans (by assumption)) | exact (mj_upn (by omega)).trans ((mj_upn (by omega)).trans ((mj_upn (by omega)).trans (by assumption)))) (by first | assumption | exact (mj_upn (by omega)).trans (by assumption) | exact (mj_upn (by omega)).trans ((mj_upn (by omega)).trans (by assumption)) | exact (mj_upn (by omega)).trans ((mj_upn (by omega)).trans ((mj_upn (by omega)).trans (by assumption)))) ?_
    refine mj_aload_n (i := 0) (q := 12) dX3_changeTop_11 rfl rfl rfl ?_
    refine mj_getfv (q := 15) dX3_changeTop_12 fl_X3_27 rfl rfl (by first | assumption | exact (mj_upn (by omega)).trans (by assumption) | exact (mj_upn (by omega)).trans ((mj_upn (by omega)).trans (by assumption)) | exact (mj_upn (by omega)).trans ((mj_upn (by omega)).trans ((mj_upn (by omega)).trans (by assumption)))) (by first | assumption | exact (mj_upn (by omega)).trans (by assumption) | exact (mj_upn (by omega)).trans ((mj_upn (by omega)).trans (by assumption)) | exact (mj_upn (by omega)).trans ((mj_upn (by omega)).trans ((mj_upn (by omega)).trans (by assumption)))) ?_
    refine mj_num1 (v := 1) (q := 16) rfl dX3_changeTop_15 rfl ?_
    refine mj_isub (q := 17) dX3_changeTop_16 rfl ?_
    refine mj_top (nI_pred c) ?_
    refine mj_iload_n (i := 1) (q := 18) dX3_changeTop_17 rfl rfl rfl ?_
    refine mj_iastn (q := 19) dX3_changeTop_18 rfl (by first | assumption | exact (mj_upn (by omega)).trans (by assumption) | exact (mj_upn (by omega)).trans ((mj_upn (by omega)).trans (by assumption)) | exact (mj_upn (by omega)).trans ((mj_upn (by omega)).trans ((mj_upn (by omega)).trans (by assumption)))) (by omega) ?_
    refine mj_aload_n (i := 0) (q := 20) dX3_changeTop_19 rfl rfl rfl ?_
    refine mj_getr (q := 23) dX3_changeTop_20 fl_X3_15 rfl rfl (by first | assumption | exact (mj_upn (by omega)).trans (by assumption) | exact (mj_upn (by omega)).trans ((mj_upn (by omega)).trans (by assumption)) | exact (mj_upn (by omega)).trans ((mj_upn (by omega)).trans ((mj_upn (by omega)).trans (by assumption)))) (by first | assumption | exact (mj_upn (by omega)).trans (by assumption) | exact (mj_upn (by omega)).trans ((mj_upn (by omega)).trans (by assumption)) | exact (mj_upn (by omega)).trans ((mj_upn (by omega)).trans ((mj_upn (by omega)).trans (by assumption)))) ?_
    refine mj_aload_n (i := 0) (q := 24) dX3_changeTop_23 rfl rfl rfl ?_
    refine mj_getfv (q := 27) dX3_changeTop_24 fl_X3_27 rfl rfl (by first | assumption | exact (mj_upn (by omega)).trans (by assumption) | exact (mj_upn (by omega)).trans ((mj_upn (by omega)).trans (by assumption)) | exact (mj_upn (by omega)).trans ((mj_upn (by omega)).trans ((mj_upn (by omega)).trans (by assumption)))) (by first | assumption | exact (mj_upn (by omega)).trans (by assumption) | exact (mj_upn (by omega)).trans ((mj_upn (by omega)).trans (by assumption)) | exact (mj_upn (by omega)).trans ((mj_upn (by omega)).trans ((mj_upn (by omega)).trans (by assumption)))) ?_
    refine mj_num1 (v := 1) (q := 28) rfl dX3_changeTop_27 rfl ?_
    refine mj_isub (q := 29) dX3_changeTop_28 rfl ?_
    refine mj_top (nI_pred c) ?_
    refine mj_iload_n (i := 2) (q := 30) dX3_changeTop_29 rfl rfl rfl ?_
    refine mj_iastn (q := 31) dX3_changeTop_30 rfl (by first | assumption | exact (mj_upn (by omega)).trans (by assumption) | exact (mj_upn (by omega)).trans ((mj_upn (by omega)).trans (by assumption)) | exact (mj_upn (by omega)).trans ((mj_upn (by omega)).trans ((mj_upn (by omega)).trans (by assumption)))) (by omega) ?_
    exact mj_return dX3_changeTop_31 rfl ⟨rfl, ⟨_, rfl, by refine ⟨by first | omega | (simp only [vChange]; omega) | (simp [vChange, b0, b1, b2, b3, b4, b5, b6, b7, b8] <;> omega), ?_, ?_, ?_, ?_, ?_, ?_, ?_, ?_⟩ <;> first | (intro k hk; simp [mj_up, upd, vChange, b0, b1, b2, b3, b4, b5, b6, b7, b8, hk]; done) | (simp [mj_up, upd, vChange, b0, b1, b2, b3, b4, b5, b6, b7, b8]; done), by repeat (first | exact mj_Fr.rf | exact (by assumption) | refine mj_Fr.up ?_ (by omega) (by omega))⟩⟩
set_option maxHeartbeats 4000000 in
set_option maxRecDepth 100000 in
theorem s_joinLowest {d s : Nat} {n : Nat} {K : Nat → mj_K} {f : Nat → Nat → Int32} {g : Nat → Nat → Option Nat} {x : sV} (hL : LSn K g s) (hS : SN f s x) (h8 : x.1 = 8) : mj_Cv m_X3_joinLowest (d + 1) [.ref s] (n, K, f, g) (fun h1 => ∃ f1, h1 = (n, K, f1, g) ∧ SN f1 s (vJoin x) ∧ mj_Fr s (s + 4) f f1) := by
  obtain ⟨k0, k1, k2, k3, g0, g1, g2⟩ := hL
  obtain ⟨c, w, sn, D, H, T⟩ := x
  obtain ⟨b0, b1, b2, b3, b4, b5, b6, b7, b8⟩ := hS
  dsimp only at b0 b1 b2 b3 b4 b5 b6 b7 b8
  have h8 : c = 8 := h8
  subst h8
  have key : ∀ (j l : Nat) (f1 : Nat → Nat → Int32), l + j = 7 → 1 ≤ l → f1 s = f s → mj_Fr s (s + 4) f f1 → (∀ k, k < 8 → f1 (s + 1) k = if k = 0 then vMin (D 0 + D 1) 300 else if k < l then D (k + 1) else D k) → (∀ k, k < 8 → f1 (s + 2) k = if k = 0 then vMin (H 0) (H 1) else if k < l then H (k + 1) else H k) → (∀ k, k < 8 → f1 (s + 3) k = if k = 0 then T 0 else if k < l then T (k + 1) else T k) → mj_W m_X3_joinLowest (d + 1) 0 0 (fun v h1 => v = none ∧ ∃ f2, h1 = (n, K, f2, g) ∧ SN f2 s (vJoin (8, w, sn, D, H, T)) ∧ mj_Fr s (s + 4) f f2) 48 [.ref s, .int (nI l)] [] (n, K, f1, g) := by
    intro j
    induction j with
    | zero =>
      intro l f1 hl h1 e0 hF e4 e5 e6
      have hl7 : l = 7 := by omega
      subst hl7
      have b1 : f1 s 3 = nI 8 := by rw [e0]; exact b1
      have b2 : f1 s 4 = w := by rw [e0]; exact b2
      have b3 : f1 s 5 = sn := by rw [e0]; exact b3
      refine mj_iload_n (i := 1) (q := 49) dX3_joinLowest_48 rfl rfl rfl ?_
      refine mj_num1 (v := 1) (q := 50) rfl dX3_joinLowest_49 rfl ?_
      refine mj_iadd (q := 51) dX3_joinLowest_50 rfl ?_
      refine mj_num2 (v := 8) (q := 53) (by decide) dX3_joinLowest_51 rfl ?_
      refine mj_icmp_ge (tgt := 104) (q := 56) dX3_joinLowest_53 (by decide) rfl (fun c_53 => ?_) (fun c_53 => absurd (by decide) c_53)
      refine mj_aload_n (i := 0) (q := 105) dX3_joinLowest_104 rfl rfl rfl ?_
      refine mj_dup (q := 106) rfl dX3_joinLowest_105 rfl ?_
      refine mj_getfv (q := 109) dX3_joinLowest_106 fl_X3_27 rfl rfl (by first | assumption | exact (mj_upn (by omega)).trans (by assumption) | exact (mj_upn (by omega)).trans ((mj_upn (by omega)).trans (by assumption)) | exact (mj_upn (by omega)).trans ((mj_upn (by omega)).trans ((mj_upn (by omega)).trans (by assumption)))) (by first | assumption | exact (mj_upn (by omega)).trans (by assumption) | exact (mj_upn (by omega)).trans ((mj_upn (by omega)).trans (by assumption)) | exact (mj_upn (by omega)).trans ((mj_upn (by omega)).trans ((mj_upn (by omega)).trans (by assumption)))) ?_
      refine mj_num1 (v := 1) (q := 110) rfl dX3_joinLowest_109 rfl ?_
      refine mj_isub (q := 111) dX3_joinLowest_110 rfl ?_
      refine mj_top (y := nI 7) (by decide) ?_
      refine mj_putf (q := 114) dX3_joinLowest_111 fl_X3_27 rfl rfl (by first | assumption | exact (mj_upn (by omega)).trans (by assumption) | exact (mj_upn (by omega)).trans ((mj_upn (by omega)).trans (by assumption)) | exact (mj_upn (by omega)).trans ((mj_upn (by omega)).trans ((mj_upn (by omega)).trans (by assumption)))) rfl rfl rfl ?_
      exact mj_return dX3_joinLowest_114 rfl ⟨rfl, ⟨_, rfl, by refine ⟨by simp only [vJoin]; omega, ?_, ?_, ?_, ?_, ?_, ?_, b7, b8⟩ <;> first | (intro k hk; simp [mj_up, vJoin, e4, e5, e6, hk]; done) | (simp [mj_up, vJoin, b1, b2, b3]; done), by repeat (first | exact mj_Fr.rf | exact (by assumption) | refine mj_Fr.up ?_ (by omega) (by omega))⟩⟩
    | succ j ih =>
      intro l f1 hl h1 e0 hF e4 e5 e6
      have hl6 : l ≤ 6 := by omega
      refine mj_iload_n (i := 1) (q := 49) dX3_joinLowest_48 rfl rfl rfl ?_
      refine mj_num1 (v := 1) (q := 50) rfl dX3_joinLowest_49 rfl ?_
      refine mj_iadd (q := 51) dX3_joinLowest_50 rfl ?_
      refine mj_num2 (v := 8) (q := 53) (by decide) dX3_joinLowest_51 rfl ?_
      refine mj_icmp_ge (tgt := 104) (q := 56) dX3_joinLowest_53 (by decide) rfl (fun c_53 => absurd c_53 (by rw [nI_1]; exact nI_ge (a := l + 1) (b := 8) (by omega) (by omega))) (fun c_53 => ?_)
      refine mj_aload_n (i := 0) (q := 57) dX3_joinLowest_56 rfl rfl rfl ?_
      refine mj_getr (q := 60) dX3_joinLowest_57 fl_X3_9 rfl rfl (by first | assumption | exact (mj_upn (by omega)).trans (by assumption) | exact (mj_upn (by omega)).trans ((mj_upn (by omega)).trans (by assumption)) | exact (mj_upn (by omega)).trans ((mj_upn (by omega)).trans ((mj_upn (by omega)).trans (by assumption)))) (by first | assumption | exact (mj_upn (by omega)).trans (by assumption) | exact (mj_upn (by omega)).trans ((mj_upn (by omega)).trans (by assumption)) | exact (mj_upn (by omega)).trans ((mj_upn (by omega)).trans ((mj_upn (by omega)).trans (by assumption)))) ?_
      refine mj_iload_n (i := 1) (q := 61) dX3_joinLowest_60 rfl rfl rfl ?_
      refine mj_aload_n (i := 0) (q := 62) dX3_joinLowest_61 rfl rfl rfl ?_
      refine mj_getr (q := 65) dX3_joinLowest_62 fl_X3_9 rfl rfl (by first | assumption | exact (mj_upn (by omega)).trans (by assumption) | exact (mj_upn (by omega)).trans ((mj_upn (by omega)).trans (by assumption)) | exact (mj_upn (by omega)).trans ((mj_upn (by omega)).trans ((mj_upn (by omega)).trans (by assumption)))) (by first | assumption | exact (mj_upn (by omega)).trans (by assumption) | exact (mj_upn (by omega)).trans ((mj_upn (by omega)).trans (by assumption)) | exact (mj_upn (by omega)).trans ((mj_upn (by omega)).trans ((mj_upn (by omega)).trans (by assumption)))) ?_
      refine mj_iload_n (i := 1) (q := 66) dX3_joinLowest_65 rfl rfl rfl ?_
      refine mj_num1 (v := 1) (q := 67) rfl dX3_joinLowest_66 rfl ?_
      refine mj_iadd (q := 68) dX3_joinLowest_67 rfl ?_
      refine mj_top (nI_1 l) ?_
      refine mj_ialdn (q := 69) dX3_joinLowest_68 rfl (by first | assumption | exact (mj_upn (by omega)).trans (by assumption) | exact (mj_upn (by omega)).trans ((mj_upn (by omega)).trans (by assumption)) | exact (mj_upn (by omega)).trans ((mj_upn (by omega)).trans ((mj_upn (by omega)).trans (by assumption)))) (by omega) ?_
      refine mj_iastn (q := 70) dX3_joinLowest_69 rfl (by first | assumption | exact (mj_upn (by omega)).trans (by assumption) | exact (mj_upn (by omega)).trans ((mj_upn (by omega)).trans (by assumption)) | exact (mj_upn (by omega)).trans ((mj_upn (by omega)).trans ((mj_upn (by omega)).trans (by assumption)))) (by omega) ?_
      refine mj_aload_n (i := 0) (q := 71) dX3_joinLowest_70 rfl rfl rfl ?_
      refine mj_getr (q := 74) dX3_joinLowest_71 fl_X3_15 rfl rfl (by first | assumption | exact (mj_upn (by omega)).trans (by assumption) | exact (mj_upn (by omega)).trans ((mj_upn (by omega)).trans (by assumption)) | exact (mj_upn (by omega)).trans ((mj_upn (by omega)).trans ((mj_upn (by omega)).trans (by assumption)))) (by first | assumption | exact (mj_upn (by omega)).trans (by assumption) | exact (mj_upn (by omega)).trans ((mj_upn (by omega)).trans (by assumption)) | exact (mj_upn (by omega)).trans ((mj_upn (by omega)).trans ((mj_upn (by omega)).trans (by assumption)))) ?_
      refine mj_iload_n (i := 1) (q := 75) dX3_joinLowest_74 rfl rfl rfl ?_
      refine mj_aload_n (i := 0) (q := 76) dX3_joinLowest_75 rfl rfl rfl ?_
      refine mj_getr (q := 79) dX3_joinLowest_76 fl_X3_15 rfl rfl (by first | assumption | exact (mj_upn (by omega)).trans (by assumption) | exact (mj_upn (by omega)).trans ((mj_upn (by omega)).trans (by assumption)) | exact (mj_upn (by omega)).trans ((mj_upn (by omega)).trans ((mj_upn (by omega)).trans (by assumption)))) (by first | assumption | exact (mj_upn (by omega)).trans (by assumption) | exact (mj_upn (by omega)).trans ((mj_upn (by omega)).trans (by assumption)) | exact (mj_upn (by omega)).trans ((mj_upn (by omega)).trans ((mj_upn (by omega)).trans (by assumption)))) ?_
      refine mj_iload_n (i := 1) (q := 80) dX3_joinLowest_79 rfl rfl rfl ?_
      refine mj_num1 (v := 1) (q := 81) rfl dX3_joinLowest_80 rfl ?_
      refine mj_iadd (q := 82) dX3_joinLowest_81 rfl ?_
      refine mj_top (nI_1 l) ?_
      refine mj_ialdn (q := 83) dX3_joinLowest_82 rfl (by first | assumption | exact (mj_upn (by omega)).trans (by assumption) | exact (mj_upn (by omega)).trans ((mj_upn (by omega)).trans (by assumption)) | exact (mj_upn (by omega)).trans ((mj_upn (by omega)).trans ((mj_upn (by omega)).trans (by assumption)))) (by omega) ?_
      refine mj_iastn (q := 84) dX3_joinLowest_83 rfl (by first | assumption | exact (mj_upn (by omega)).trans (by assumption) | exact (mj_upn (by omega)).trans ((mj_upn (by omega)).trans (by assumption)) | exact (mj_upn (by omega)).trans ((mj_upn (by omega)).trans ((mj_upn (by omega)).trans (by assumption)))) (by omega) ?_
      refine mj_aload_n (i := 0) (q := 85) dX3_joinLowest_84 rfl rfl rfl ?_
      refine mj_getr (q := 88) dX3_joinLowest_85 fl_X3_18 rfl rfl (by first | assumption | exact (mj_upn (by omega)).trans (by assumption) | exact (mj_upn (by omega)).trans ((mj_upn (by omega)).trans (by assumption)) | exact (mj_upn (by omega)).trans ((mj_upn (by omega)).trans ((mj_upn (by omega)).trans (by assumption)))) (by first | assumption | exact (mj_upn (by omega)).trans (by assumption) | exact (mj_upn (by omega)).trans ((mj_upn (by omega)).trans (by assumption)) | exact (mj_upn (by omega)).trans ((mj_upn (by omega)).trans ((mj_upn (by omega)).trans (by assumption)))) ?_
      refine mj_iload_n (i := 1) (q := 89) dX3_joinLowest_88 rfl rfl rfl ?_
      refine mj_aload_n (i := 0) (q := 90) dX3_joinLowest_89 rfl rfl rfl ?_
      refine mj_getr (q := 93) dX3_joinLowest_90 fl_X3_18 rfl rfl (by first | assumption | exact (mj_upn (by omega)).trans (by assumption) | exact (mj_upn (by omega)).trans ((mj_upn (by omega)).trans (by assumption)) | exact (mj_upn (by omega)).trans ((mj_upn (by omega)).trans ((mj_upn (by omega)).trans (by assumption)))) (by first | assumption | exact (mj_upn (by omega)).trans (by assumption) | exact (mj_upn (by omega)).trans ((mj_upn (by omega)).trans (by assumption)) | exact (mj_upn (by omega)).trans ((mj_upn (by omega)).trans ((mj_upn (by omega)).trans (by assumption)))) ?_
      refine mj_iload_n (i := 1) (q := 94) dX3_joinLowest_93 rfl rfl rfl ?_
      refine mj_num1 (v := 1) (q := 95) rfl dX3_joinLowest_94 rfl ?_
      refine mj_iadd (q := 96) dX3_joinLowest_95 rfl ?_
      refine mj_top (nI_1 l) ?_
      refine mj_ialdn (q := 97) dX3_joinLowest_96 rfl (by first | assumption | exact (mj_upn (by omega)).trans (by assumption) | exact (mj_upn (by omega)).trans ((mj_upn (by omega)).trans (by assumption)) | exact (mj_upn (by omega)).trans ((mj_upn (by omega)).trans ((mj_upn (by omega)).trans (by assumption)))) (by omega) ?_
      refine mj_iastn (q := 98) dX3_joinLowest_97 rfl (by first | assumption | exact (mj_upn (by omega)).trans (by assumption) | exact (mj_upn (by omega)).trans ((mj_upn (by omega)).trans (by assumption)) | exact (mj_upn (by omega)).trans ((mj_upn (by omega)).trans ((mj_upn (by omega)).trans (by assumption)))) (by omega) ?_
      refine mj_iinc (i := 1) (q := 101) dX3_joinLowest_98 rfl rfl (by decide) rfl ?_
      dsimp only [List.set]
      refine mj_goto (q := 48) dX3_joinLowest_101 (by decide) ?_
      rw [show nI l + Int32.ofInt 1 = nI (l + 1) from nI_1 l]
      refine ih (l + 1) _ (by omega) (by omega) ?_ ?_ ?_ ?_ ?_
      · rw [mj_upr (by omega), mj_upr (by omega), mj_upr (by omega)]; exact e0
      · repeat (first | exact mj_Fr.rf | exact (by assumption) | refine mj_Fr.up ?_ (by omega) (by omega))
      · intro k hk; by_cases hkl : k = l <;> simp [mj_up, e4, hk, hkl, show ¬ l = 0 by omega, show l < 8 by omega, show l + 1 < 8 by omega] <;> (try split) <;> (try split) <;> (try split) <;> first | rfl | omega | (exfalso; omega)
      · intro k hk; by_cases hkl : k = l <;> simp [mj_up, e5, hk, hkl, show ¬ l = 0 by omega, show l < 8 by omega, show l + 1 < 8 by omega] <;> (try split) <;> (try split) <;> (try split) <;> first | rfl | omega | (exfalso; omega)
      · intro k hk; by_cases hkl : k = l <;> simp [mj_up, e6, hk, hkl, show ¬ l = 0 by omega, show l < 8 by omega, show l + 1 < 8 by omega] <;> (try split) <;> (try split) <;> (try split) <;> first | rfl | omega | (exfalso; omega)
  refine mj_entry (by refine ⟨by decide +kernel, by decide, rfl, Nat.le_of_ble_eq_true rfl⟩) ?_
  show mj_W _ _ _ _ _ 0 [.ref s, .null] [] _
  refine mj_aload_n (i := 0) (q := 1) dX3_joinLowest_0 rfl rfl rfl ?_
  refine mj_getr (q := 4) dX3_joinLowest_1 fl_X3_9 rfl rfl (by first | assumption | exact (mj_upn (by omega)).trans (by assumption) | exact (mj_upn (by omega)).trans ((mj_upn (by omega)).trans (by assumption)) | exact (mj_upn (by omega)).trans ((mj_upn (by omega)).trans ((mj_upn (by omega)).trans (by assumption)))) (by first | assumption | exact (mj_upn (by omega)).trans (by assumption) | exact (mj_upn (by omega)).trans ((mj_upn (by omega)).trans (by assumption)) | exact (mj_upn (by omega)).trans ((mj_upn (by omega)).trans ((mj_upn (by omega)).trans (by assumption)))) ?_
  refine mj_num1 (v := nI 0) (q := 5) (by decide) dX3_joinLowest_4 rfl ?_
  refine mj_aload_n (i := 0) (q := 6) dX3_joinLowest_5 rfl rfl rfl ?_
  refine mj_getr (q := 9) dX3_joinLowest_6 fl_X3_9 rfl rfl (by first | assumption | exact (mj_upn (by omega)).trans (by assumption) | exact (mj_upn (by omega)).trans ((mj_upn (by omega)).trans (by assumption)) | exact (mj_upn (by omega)).trans ((mj_upn (by omega)).trans ((mj_upn (by omega)).trans (by assumption)))) (by first | assumption | exact (mj_upn (by omega)).trans (by assumption) | exact (mj_upn (by omega)).trans ((mj_upn (by omega)).trans (by assumption)) | exact (mj_upn (by omega)).trans ((mj_upn (by omega)).trans ((mj_upn (by omega)).trans (by assumption)))) ?_
  refine mj_num1 (v := nI 0) (q := 10) (by decide) dX3_joinLowest_9 rfl ?_
  refine mj_ialdn (q := 11) dX3_joinLowest_10 rfl (by first | assumption | exact (mj_upn (by omega)).trans (by assumption) | exact (mj_upn (by omega)).trans ((mj_upn (by omega)).trans (by assumption)) | exact (mj_upn (by omega)).trans ((mj_upn (by omega)).trans ((mj_upn (by omega)).trans (by assumption)))) (by omega) ?_
  refine mj_aload_n (i := 0) (q := 12) dX3_joinLowest_11 rfl rfl rfl ?_
  refine mj_getr (q := 15) dX3_joinLowest_12 fl_X3_9 rfl rfl (by first | assumption | exact (mj_upn (by omega)).trans (by assumption) | exact (mj_upn (by omega)).trans ((mj_upn (by omega)).trans (by assumption)) | exact (mj_upn (by omega)).trans ((mj_upn (by omega)).trans ((mj_upn (by omega)).trans (by assumption)))) (by first | assumption | exact (mj_upn (by omega)).trans (by assumption) | exact (mj_upn (by omega)).trans ((mj_upn (by omega)).trans (by assumption)) | exact (mj_upn (by omega)).trans ((mj_upn (by omega)).trans ((mj_upn (by omega)).trans (by assumption)))) ?_
  refine mj_num1 (v := nI 1) (q := 16) (by decide) dX3_joinLowest_15 rfl ?_
  refine mj_ialdn (q := 17) dX3_joinLowest_16 rfl (by first | assumption | exact (mj_upn (by omega)).trans (by assumption) | exact (mj_upn (by omega)).trans ((mj_upn (by omega)).trans (by assumption)) | exact (mj_upn (by omega)).trans ((mj_upn (by omega)).trans ((mj_upn (by omega)).trans (by assumption)))) (by omega) ?_
  refine mj_iadd (q := 18) dX3_joinLowest_17 rfl ?_
  refine mj_num3 (v := 300) (q := 21) (by decide) dX3_joinLowest_18 rfl ?_
  refine mj_mmin (q := 24) dX3_joinLowest_21 ln_X3_48 (Nat.le_of_ble_eq_true rfl) rfl ?_
  refine mj_iastn (q := 25) dX3_joinLowest_24 rfl (by first | assumption | exact (mj_upn (by omega)).trans (by assumption) | exact (mj_upn (by omega)).trans ((mj_upn (by omega)).trans (by assumption)) | exact (mj_upn (by omega)).trans ((mj_upn (by omega)).trans ((mj_upn (by omega)).trans (by assumption)))) (by omega) ?_
  refine mj_aload_n (i := 0) (q := 26) dX3_joinLowest_25 rfl rfl rfl ?_
  refine mj_getr (q := 29) dX3_joinLowest_26 fl_X3_15 rfl rfl (by first | assumption | exact (mj_upn (by omega)).trans (by assumption) | exact (mj_upn (by omega)).trans ((mj_upn (by omega)).trans (by assumption)) | exact (mj_upn (by omega)).trans ((mj_upn (by omega)).trans ((mj_upn (by omega)).trans (by assumption)))) (by first | assumption | exact (mj_upn (by omega)).trans (by assumption) | exact (mj_upn (by omega)).trans ((mj_upn (by omega)).trans (by assumption)) | exact (mj_upn (by omega)).trans ((mj_upn (by omega)).trans ((mj_upn (by omega)).trans (by assumption)))) ?_
  refine mj_num1 (v := nI 0) (q := 30) (by decide) dX3_joinLowest_29 rfl ?_
  refine mj_aload_n (i := 0) (q := 31) dX3_joinLowest_30 rfl rfl rfl ?_
  refine mj_getr (q := 34) dX3_joinLowest_31 fl_X3_15 rfl rfl (by first | assumption | exact (mj_upn (by omega)).trans (by assumption) | exact (mj_upn (by omega)).trans ((mj_upn (by omega)).trans (by assumption)) | exact (mj_upn (by omega)).trans ((mj_upn (by omega)).trans ((mj_upn (by omega)).trans (by assumption)))) (by first | assumption | exact (mj_upn (by omega)).trans (by assumption) | exact (mj_upn (by omega)).trans ((mj_upn (by omega)).trans (by assumption)) | exact (mj_upn (by omega)).trans ((mj_upn (by omega)).trans ((mj_upn (by omega)).trans (by assumption)))) ?_
  refine mj_num1 (v := nI 0) (q := 35) (by decide) dX3_joinLowest_34 rfl ?_
  refine mj_ialdn (q := 36) dX3_joinLowest_35 rfl (by first | assumption | exact (mj_upn (by omega)).trans (by assumption) | exact (mj_upn (by omega)).trans ((mj_upn (by omega)).trans (by assumption)) | exact (mj_upn (by omega)).trans ((mj_upn (by omega)).trans ((mj_upn (by omega)).trans (by assumption)))) (by omega) ?_
  refine mj_aload_n (i := 0) (q := 37) dX3_joinLowest_36 rfl rfl rfl ?_
  refine mj_getr (q := 40) dX3_joinLowest_37 fl_X3_15 rfl rfl (by first | assumption | exact (mj_upn (by omega)).trans (by assumption) | exact (mj_upn (by omega)).trans ((mj_upn (by omega)).trans (by assumption)) | exact (mj_upn (by omega)).trans ((mj_upn (by omega)).trans ((mj_upn (by omega)).trans (by assumption)))) (by first | assumption | exact (mj_upn (by omega)).trans (by assumption) | exact (mj_upn (by omega)).trans ((mj_upn (by omega)).trans (by assumption)) | exact (mj_upn (by omega)).trans ((mj_upn (by omega)).trans ((mj_upn (by omega)).trans (by assumption)))) ?_
  refine mj_num1 (v := nI 1) (q := 41) (by decide) dX3_joinLowest_40 rfl ?_
  refine mj_ialdn (q := 42) dX3_joinLowest_41 rfl (by first | assumption | exact (mj_upn (by omega)).trans (by assumption) | exact (mj_upn (by omega)).trans ((mj_upn (by omega)).trans (by assumption)) | exact (mj_upn (by omega)).trans ((mj_upn (by omega)).trans ((mj_upn (by omega)).trans (by assumption)))) (by omega) ?_
  refine mj_mmin (q := 45) dX3_joinLowest_42 ln_X3_48 (Nat.le_of_ble_eq_true rfl) rfl ?_
  refine mj_iastn (q := 46) dX3_joinLowest_45 rfl (by first | assumption | exact (mj_upn (by omega)).trans (by assumption) | exact (mj_upn (by omega)).trans ((mj_upn (by omega)).trans (by assumption)) | exact (mj_upn (by omega)).trans ((mj_upn (by omega)).trans ((mj_upn (by omega)).trans (by assumption)))) (by omega) ?_
  refine mj_num1 (v := nI 1) (q := 47) (by decide) dX3_joinLowest_46 rfl ?_
  refine mj_istore_n (i := 1) (q := 48) dX3_joinLowest_47 rfl rfl (by decide) rfl ?_
  dsimp only [List.set]
  refine key 6 1 _ (by omega) (by omega) ?_ ?_ ?_ ?_ ?_
  · rw [mj_upr (by omega), mj_upr (by omega)]
  · repeat (first | exact mj_Fr.rf | exact (by assumption) | refine mj_Fr.up ?_ (by omega) (by omega))
  · intro k hk; by_cases hk0 : k = 0 <;> simp [mj_up, vMin, b4, b5, b6, hk, hk0]
  · intro k hk; by_cases hk0 : k = 0 <;> simp [mj_up, vMin, b4, b5, b6, hk, hk0]
  · intro k hk; by_cases hk0 : k = 0 <;> simp [mj_up, vMin, b4, b5, b6, hk, hk0]
set_option maxHeartbeats 4000000 in
set_option maxRecDepth 100000 in
theorem s_lay {d s : Nat} {t dp hd0 : Int32} {n : Nat} {K : Nat → mj_K} {f : Nat → Nat → Int32} {g : Nat → Nat → Option Nat} {x : sV} (hL : LSn K g s) (hS : SN f s x) : mj_Cv m_X3_lay (d + 2) [.ref s, .int t, .int dp, .int hd0] (n, K, f, g) (fun h1 => ∃ f1, h1 = (n, K, f1, g) ∧ SN f1 s (vLay t dp hd0 x) ∧ mj_Fr s (s + 4) f f1) := by
  have hL2 := hL
  obtain ⟨k0, k1, k2, k3, g0, g1, g2⟩ := hL
  have key : ∀ (f1 : Nat → Nat → Int32) (y : sV), SN f1 s y → y.1 < 8 → mj_Fr s (s + 4) f f1 → vLay t dp hd0 x = vLayN t dp hd0 y → mj_W m_X3_lay (d + 2) 0 0 (fun v h1 => v = none ∧ ∃ f2, h1 = (n, K, f2, g) ∧ SN f2 s (vLay t dp hd0 x) ∧ mj_Fr s (s + 4) f f2) 13 [.ref s, .int t, .int dp, .int hd0] [] (n, K, f1, g) := by
    intro f1 y hS1 h8 hF hv
    rw [hv]
    obtain ⟨c, w, sn, D, H, T⟩ := y
    obtain ⟨b0, b1, b2, b3, b4, b5, b6, b7, b8⟩ := hS1
    dsimp only at b0 b1 b2 b3 b4 b5 b6 b7 b8 h8
    refine mj_aload_n (i := 0) (q := 14) dX3_lay_13 rfl rfl rfl ?_
    refine mj_getr (q := 17) dX3_lay_14 fl_X3_18 rfl rfl (by first | assumption | exact (mj_upn (by omega)).trans (by assumption) | exact (mj_upn (by omega)).trans ((mj_upn (by omega)).trans (by assumption)) | exact (mj_upn (by omega)).trans ((mj_upn (by omega)).trans ((mj_upn (by omega)).trans (by assumption)))) (by first | assumption | exact (mj_upn (by omega)).trans (by assumption) | exact (mj_upn (by omega)).trans ((mj_upn (by omega)).trans (by assumption)) | exact (mj_upn (by omega)).trans ((mj_upn (by omega)).trans ((mj_upn (by omega)).trans (by assumption)))) ?_
    refine mj_aload_n (i := 0) (q := 18) dX3_lay_17 rfl rfl rfl ?_
    refine mj_getfv (q := 21) dX3_lay_18 fl_X3_27 rfl rfl (by first | assumption | exact (mj_upn (by omega)).trans (by assumption) | exact (mj_upn (by omega)).trans ((mj_upn (by omega)).trans (by assumption)) | exact (mj_upn (by omega)).trans ((mj_upn (by omega)).trans ((mj_upn (by omega)).trans (by assumption)))) (by first | assumption | exact (mj_upn (by omega)).trans (by assumption) | exact (mj_upn (by omega)).trans ((mj_upn (by omega)).trans (by assumption)) | exact (mj_upn (by omega)).trans ((mj_upn (by omega)).trans ((mj_upn (by omega)).trans (by assumption)))) ?_
    refine mj_iload_n (i := 1) (q := 22) dX3_lay_21 rfl rfl rfl ?_
    refine mj_iastn (q := 23) dX3_lay_22 rfl (by first | assumption | exact (mj_upn (by omega)).trans (by assumption) | exact (mj_upn (by omega)).trans ((mj_upn (by omega)).trans (by assumption)) | exact (mj_upn (by omega)).trans ((mj_upn (by omega)).trans ((mj_upn (by omega)).trans (by assumption)))) (by omega) ?_
    refine mj_aload_n (i := 0) (q := 24) dX3_lay_23 rfl rfl rfl ?_
    refine mj_getr (q := 27) dX3_lay_24 fl_X3_9 rfl rfl (by first | assumption | exact (mj_upn (by omega)).trans (by assumption) | exact (mj_upn (by omega)).trans ((mj_upn (by omega)).trans (by assumption)) | exact (mj_upn (by omega)).trans ((mj_upn (by omega)).trans ((mj_upn (by omega)).trans (by assumption)))) (by first | assumption | exact (mj_upn (by omega)).trans (by assumption) | exact (mj_upn (by omega)).trans ((mj_upn (by omega)).trans (by assumption)) | exact (mj_upn (by omega)).trans ((mj_upn (by omega)).trans ((mj_upn (by omega)).trans (by assumption)))) ?_
    refine mj_aload_n (i := 0) (q := 28) dX3_lay_27 rfl rfl rfl ?_
    refine mj_getfv (q := 31) dX3_lay_28 fl_X3_27 rfl rfl (by first | assumption | exact (mj_upn (by omega)).trans (by assumption) | exact (mj_upn (by omega)).trans ((mj_upn (by omega)).trans (by assumption)) | exact (mj_upn (by omega)).trans ((mj_upn (by omega)).trans ((mj_upn (by omega)).trans (by assumption)))) (by first | assumption | exact (mj_upn (by omega)).trans (by assumption) | exact (mj_upn (by omega)).trans ((mj_upn (by omega)).trans (by assumption)) | exact (mj_upn (by omega)).trans ((mj_upn (by omega)).trans ((mj_upn (by omega)).trans (by assumption)))) ?_
    refine mj_iload_n (i := 2) (q := 32) dX3_lay_31 rfl rfl rfl ?_
    refine mj_iastn (q := 33) dX3_lay_32 rfl (by first | assumption | exact (mj_upn (by omega)).trans (by assumption) | exact (mj_upn (by omega)).trans ((mj_upn (by omega)).trans (by assumption)) | exact (mj_upn (by omega)).trans ((mj_upn (by omega)).trans ((mj_upn (by omega)).trans (by assumption)))) (by omega) ?_
    refine mj_aload_n (i := 0) (q := 34) dX3_lay_33 rfl rfl rfl ?_
    refine mj_getr (q := 37) dX3_lay_34 fl_X3_15 rfl rfl (by first | assumption | exact (mj_upn (by omega)).trans (by assumption) | exact (mj_upn (by omega)).trans ((mj_upn (by omega)).trans (by assumption)) | exact (mj_upn (by omega)).trans ((mj_upn (by omega)).trans ((mj_upn (by omega)).trans (by assumption)))) (by first | assumption | exact (mj_upn (by omega)).trans (by assumption) | exact (mj_upn (by omega)).trans ((mj_upn (by omega)).trans (by assumption)) | exact (mj_upn (by omega)).trans ((mj_upn (by omega)).trans ((mj_upn (by omega)).trans (by assumption)))) ?_
    refine mj_aload_n (i := 0) (q := 38) dX3_lay_37 rfl rfl rfl ?_
    refine mj_getfv (q := 41) dX3_lay_38 fl_X3_27 rfl rfl (by first | assumption | exact (mj_upn (by omega)).trans (by assumption) | exact (mj_upn (by omega)).trans ((mj_upn (by omega)).trans (by assumption)) | exact (mj_upn (by omega)).trans ((mj_upn (by omega)).trans ((mj_upn (by omega)).trans (by assumption)))) (by first | assumption | exact (mj_upn (by omega)).trans (by assumption) | exact (mj_upn (by omega)).trans ((mj_upn (by omega)).trans (by assumption)) | exact (mj_upn (by omega)).trans ((mj_upn (by omega)).trans ((mj_upn (by omega)).trans (by assumption)))) ?_
    refine mj_iload_n (i := 3) (q := 42) dX3_lay_41 rfl rfl rfl ?_
    refine mj_iastn (q := 43) dX3_lay_42 rfl (by first | assumption | exact (mj_upn (by omega)).trans (by assumption) | exact (mj_upn (by omega)).trans ((mj_upn (by omega)).trans (by assumption)) | exact (mj_upn (by omega)).trans ((mj_upn (by omega)).trans ((mj_upn (by omega)).trans (by assumption)))) (by omega) ?_
    refine mj_aload_n (i := 0) (q := 44) dX3_lay_43 rfl rfl rfl ?_
    refine mj_dup (q := 45) rfl dX3_lay_44 rfl ?_
    refine mj_getfv (q := 48) dX3_lay_45 fl_X3_27 rfl rfl (by first | assumption | exact (mj_upn (by omega)).trans (by assumption) | exact (mj_upn (by omega)).trans ((mj_upn (by omega)).trans (by assumption)) | exact (mj_upn (by omega)).trans ((mj_upn (by omega)).trans ((mj_upn (by omega)).trans (by assumption)))) (by first | assumption | exact (mj_upn (by omega)).trans (by assumption) | exact (mj_upn (by omega)).trans ((mj_upn (by omega)).trans (by assumption)) | exact (mj_upn (by omega)).trans ((mj_upn (by omega)).trans ((mj_upn (by omega)).trans (by assumption)))) ?_
    refine mj_num1 (v := 1) (q := 49) rfl dX3_lay_48 rfl ?_
    refine mj_iadd (q := 50) dX3_lay_49 rfl ?_
    refine mj_top (nI_1 c) ?_
    refine mj_putf (q := 53) dX3_lay_50 fl_X3_27 rfl rfl (by first | assumption | exact (mj_upn (by omega)).trans (by assumption) | exact (mj_upn (by omega)).trans ((mj_upn (by omega)).trans (by assumption)) | exact (mj_upn (by omega)).trans ((mj_upn (by omega)).trans ((mj_upn (by omega)).trans (by assumption)))) rfl rfl rfl ?_
    refine mj_aload_n (i := 0) (q := 54) dX3_lay_53 rfl rfl rfl ?_
    refine mj_num1 (v := 0) (q := 55) rfl dX3_lay_54 rfl ?_
    refine mj_putf (q := 58) dX3_lay_55 fl_X3_31 rfl rfl (by first | assumption | exact (mj_upn (by omega)).trans (by assumption) | exact (mj_upn (by omega)).trans ((mj_upn (by omega)).trans (by assumption)) | exact (mj_upn (by omega)).trans ((mj_upn (by omega)).trans ((mj_upn (by omega)).trans (by assumption)))) rfl rfl rfl ?_
    exact mj_return dX3_lay_58 rfl ⟨rfl, ⟨_, rfl, by refine ⟨by first | omega | (simp only [vLayN]; omega) | (simp [vLayN, b0, b1, b2, b3, b4, b5, b6, b7, b8] <;> omega), ?_, ?_, ?_, ?_, ?_, ?_, ?_, ?_⟩ <;> first | (intro k hk; simp [mj_up, upd, vLayN, b0, b1, b2, b3, b4, b5, b6, b7, b8, hk]; done) | (simp [mj_up, upd, vLayN, b0, b1, b2, b3, b4, b5, b6, b7, b8]; done), by repeat (first | exact mj_Fr.rf | exact (by assumption) | refine mj_Fr.up ?_ (by omega) (by omega))⟩⟩
  have hS0 := hS
  obtain ⟨c, w, sn, D, H, T⟩ := x
  obtain ⟨b0, b1, b2, b3, b4, b5, b6, b7, b8⟩ := hS0
  dsimp only at b0 b1 b2 b3 b4 b5 b6 b7 b8
  refine mj_entry (by refine ⟨by decide +kernel, by decide, rfl, Nat.le_of_ble_eq_true rfl⟩) ?_
  show mj_W _ _ _ _ _ 0 [.ref s, .int t, .int dp, .int hd0] [] _
  refine mj_aload_n (i := 0) (q := 1) dX3_lay_0 rfl rfl rfl ?_
  refine mj_getfv (q := 4) dX3_lay_1 fl_X3_27 rfl rfl (by first | assumption | exact (mj_upn (by omega)).trans (by assumption) | exact (mj_upn (by omega)).trans ((mj_upn (by omega)).trans (by assumption)) | exact (mj_upn (by omega)).trans ((mj_upn (by omega)).trans ((mj_upn (by omega)).trans (by assumption)))) (by first | assumption | exact (mj_upn (by omega)).trans (by assumption) | exact (mj_upn (by omega)).trans ((mj_upn (by omega)).trans (by assumption)) | exact (mj_upn (by omega)).trans ((mj_upn (by omega)).trans ((mj_upn (by omega)).trans (by assumption)))) ?_
  refine mj_num2 (v := 8) (q := 6) (by decide) dX3_lay_4 rfl ?_
  refine mj_icmp_lt (tgt := 13) (q := 9) dX3_lay_6 (by decide) rfl (fun c_6 => ?_) (fun c_6 => ?_)
  · first | exact key _ _ hS (by have := (nI_ltI (a := c) (b := 8) (by omega) (by omega)).mp c_6; exact this) mj_Fr.rf (by simp only [vLay]; rw [if_pos (by have := (nI_ltI (a := c) (b := 8) (by omega) (by omega)).mp c_6; exact this)]) | exact key _ _ hS1 (by simp only [vJoin]; omega) hF1 (by simp only [vLay]; rw [if_neg (by exact mt (nI_ltI (a := c) (b := 8) (by omega) (by omega)).mpr c_6)])
  · refine mj_aload_n (i := 0) (q := 10) dX3_lay_9 rfl rfl rfl ?_
    refine mj_cV0v (K := m_X3_joinLowest) (q := 13) dX3_lay_10 ln_X3_55 ok_X3_joinLowest (Nat.le_of_ble_eq_true rfl) (by decide) (by first | assumption | exact (mj_upn (by omega)).trans (by assumption) | exact (mj_upn (by omega)).trans ((mj_upn (by omega)).trans (by assumption)) | exact (mj_upn (by omega)).trans ((mj_upn (by omega)).trans ((mj_upn (by omega)).trans (by assumption)))) rfl rfl (s_joinLowest hL2 hS (by show c = 8; have := mt (nI_ltI (a := c) (b := 8) (by omega) (by omega)).mpr c_6; omega)) (fun h1 hq => ?_)
    obtain ⟨f1, rfl, hS1, hF1⟩ := hq
    first | exact key _ _ hS (by have := (nI_ltI (a := c) (b := 8) (by omega) (by omega)).mp c_6; exact this) mj_Fr.rf (by simp only [vLay]; rw [if_pos (by have := (nI_ltI (a := c) (b := 8) (by omega) (by omega)).mp c_6; exact this)]) | exact key _ _ hS1 (by simp only [vJoin]; omega) hF1 (by simp only [vLay]; rw [if_neg (by exact mt (nI_ltI (a := c) (b := 8) (by omega) (by omega)).mpr c_6)])
set_option maxHeartbeats 4000000 in
set_option maxRecDepth 100000 in
theorem s_pressTop {d s : Nat} {n : Nat} {K : Nat → mj_K} {f : Nat → Nat → Int32} {g : Nat → Nat → Option Nat} {x : sV} (hL : LSn K g s) (hS : SN f s x) (h2 : 2 ≤ x.1) : mj_Ci m_X3_pressTop (d + 1) [.ref s] (n, K, f, g) (fun r h1 => ∃ f1, h1 = (n, K, f1, g) ∧ SN f1 s (vPress x) ∧ mj_Fr s (s + 4) f f1 ∧ r = (vPress x).2.2.2.1 ((vPress x).1 - 1)) := by
  obtain ⟨k0, k1, k2, k3, g0, g1, g2⟩ := hL
  obtain ⟨c, w, sn, D, H, T⟩ := x
  obtain ⟨b0, b1, b2, b3, b4, b5, b6, b7, b8⟩ := hS
  dsimp only at b0 b1 b2 b3 b4 b5 b6 b7 b8
  obtain ⟨c, rfl⟩ : ∃ c2, c = c2 + 2 := ⟨c - 2, by have : 2 ≤ c := h2; omega⟩
  have e1 : nI (c + 2) - 1 = nI (c + 1) := nI_pred (c + 1)
  have e2 : nI (c + 2) - 2 = nI c := pk_sub (a := c + 2) (b := 2) (by omega)
  refine mj_entry (by refine ⟨by decide +kernel, by decide, rfl, Nat.le_of_ble_eq_true rfl⟩) ?_
  show mj_W _ _ _ _ _ 0 [.ref s, .null, .null] [] _
  refine mj_aload_n (i := 0) (q := 1) dX3_pressTop_0 rfl rfl rfl ?_
  refine mj_getfv (q := 4) dX3_pressTop_1 fl_X3_27 rfl rfl (by first | assumption | exact (mj_upn (by omega)).trans (by assumption) | exact (mj_upn (by omega)).trans ((mj_upn (by omega)).trans (by assumption)) | exact (mj_upn (by omega)).trans ((mj_upn (by omega)).trans ((mj_upn (by omega)).trans (by assumption)))) (by first | assumption | exact (mj_upn (by omega)).trans (by assumption) | exact (mj_upn (by omega)).trans ((mj_upn (by omega)).trans (by assumption)) | exact (mj_upn (by omega)).trans ((mj_upn (by omega)).trans ((mj_upn (by omega)).trans (by assumption)))) ?_
  refine mj_num1 (v := 2) (q := 5) rfl dX3_pressTop_4 rfl ?_
  refine mj_icmp_ge (tgt := 10) (q := 8) dX3_pressTop_5 (by decide) rfl (fun c_5 => ?_) (fun c_5 => absurd (nI_le (a := 2) (b := c + 2) (by omega) (by omega)) c_5)
  refine mj_aload_n (i := 0) (q := 11) dX3_pressTop_10 rfl rfl rfl ?_
  refine mj_getfv (q := 14) dX3_pressTop_11 fl_X3_27 rfl rfl (by first | assumption | exact (mj_upn (by omega)).trans (by assumption) | exact (mj_upn (by omega)).trans ((mj_upn (by omega)).trans (by assumption)) | exact (mj_upn (by omega)).trans ((mj_upn (by omega)).trans ((mj_upn (by omega)).trans (by assumption)))) (by first | assumption | exact (mj_upn (by omega)).trans (by assumption) | exact (mj_upn (by omega)).trans ((mj_upn (by omega)).trans (by assumption)) | exact (mj_upn (by omega)).trans ((mj_upn (by omega)).trans ((mj_upn (by omega)).trans (by assumption)))) ?_
  refine mj_num1 (v := 1) (q := 15) rfl dX3_pressTop_14 rfl ?_
  refine mj_isub (q := 16) dX3_pressTop_15 rfl ?_
  refine mj_top e1 ?_
  refine mj_istore_n (i := 1) (q := 17) dX3_pressTop_16 rfl rfl (by decide) rfl ?_
  dsimp only [List.set]
  refine mj_aload_n (i := 0) (q := 18) dX3_pressTop_17 rfl rfl rfl ?_
  refine mj_getfv (q := 21) dX3_pressTop_18 fl_X3_27 rfl rfl (by first | assumption | exact (mj_upn (by omega)).trans (by assumption) | exact (mj_upn (by omega)).trans ((mj_upn (by omega)).trans (by assumption)) | exact (mj_upn (by omega)).trans ((mj_upn (by omega)).trans ((mj_upn (by omega)).trans (by assumption)))) (by first | assumption | exact (mj_upn (by omega)).trans (by assumption) | exact (mj_upn (by omega)).trans ((mj_upn (by omega)).trans (by assumption)) | exact (mj_upn (by omega)).trans ((mj_upn (by omega)).trans ((mj_upn (by omega)).trans (by assumption)))) ?_
  refine mj_num1 (v := 2) (q := 22) rfl dX3_pressTop_21 rfl ?_
  refine mj_isub (q := 23) dX3_pressTop_22 rfl ?_
  refine mj_top e2 ?_
  refine mj_istore_n (i := 2) (q := 24) dX3_pressTop_23 rfl rfl (by decide) rfl ?_
  dsimp only [List.set]
  refine mj_aload_n (i := 0) (q := 25) dX3_pressTop_24 rfl rfl rfl ?_
  refine mj_getr (q := 28) dX3_pressTop_25 fl_X3_9 rfl rfl (by first | assumption | exact (mj_upn (by omega)).trans (by assumption) | exact (mj_upn (by omega)).trans ((mj_upn (by omega)).trans (by assumption)) | exact (mj_upn (by omega)).trans ((mj_upn (by omega)).trans ((mj_upn (by omega)).trans (by assumption)))) (by first | assumption | exact (mj_upn (by omega)).trans (by assumption) | exact (mj_upn (by omega)).trans ((mj_upn (by omega)).trans (by assumption)) | exact (mj_upn (by omega)).trans ((mj_upn (by omega)).trans ((mj_upn (by omega)).trans (by assumption)))) ?_
  refine mj_iload_n (i := 2) (q := 29) dX3_pressTop_28 rfl rfl rfl ?_
  refine mj_aload_n (i := 0) (q := 30) dX3_pressTop_29 rfl rfl rfl ?_
  refine mj_getr (q := 33) dX3_pressTop_30 fl_X3_9 rfl rfl (by first | assumption | exact (mj_upn (by omega)).trans (by assumption) | exact (mj_upn (by omega)).trans ((mj_upn (by omega)).trans (by assumption)) | exact (mj_upn (by omega)).trans ((mj_upn (by omega)).trans ((mj_upn (by omega)).trans (by assumption)))) (by first | assumption | exact (mj_upn (by omega)).trans (by assumption) | exact (mj_upn (by omega)).trans ((mj_upn (by omega)).trans (by assumption)) | exact (mj_upn (by omega)).trans ((mj_upn (by omega)).trans ((mj_upn (by omega)).trans (by assumption)))) ?_
  refine mj_iload_n (i := 2) (q := 34) dX3_pressTop_33 rfl rfl rfl ?_
  refine mj_ialdn (q := 35) dX3_pressTop_34 rfl (by first | assumption | exact (mj_upn (by omega)).trans (by assumption) | exact (mj_upn (by omega)).trans ((mj_upn (by omega)).trans (by assumption)) | exact (mj_upn (by omega)).trans ((mj_upn (by omega)).trans ((mj_upn (by omega)).trans (by assumption)))) (by omega) ?_
  refine mj_aload_n (i := 0) (q := 36) dX3_pressTop_35 rfl rfl rfl ?_
  refine mj_getr (q := 39) dX3_pressTop_36 fl_X3_9 rfl rfl (by first | assumption | exact (mj_upn (by omega)).trans (by assumption) | exact (mj_upn (by omega)).trans ((mj_upn (by omega)).trans (by assumption)) | exact (mj_upn (by omega)).trans ((mj_upn (by omega)).trans ((mj_upn (by omega)).trans (by assumption)))) (by first | assumption | exact (mj_upn (by omega)).trans (by assumption) | exact (mj_upn (by omega)).trans ((mj_upn (by omega)).trans (by assumption)) | exact (mj_upn (by omega)).trans ((mj_upn (by omega)).trans ((mj_upn (by omega)).trans (by assumption)))) ?_
  refine mj_iload_n (i := 1) (q := 40) dX3_pressTop_39 rfl rfl rfl ?_
  refine mj_ialdn (q := 41) dX3_pressTop_40 rfl (by first | assumption | exact (mj_upn (by omega)).trans (by assumption) | exact (mj_upn (by omega)).trans ((mj_upn (by omega)).trans (by assumption)) | exact (mj_upn (by omega)).trans ((mj_upn (by omega)).trans ((mj_upn (by omega)).trans (by assumption)))) (by omega) ?_
  refine mj_iadd (q := 42) dX3_pressTop_41 rfl ?_
  refine mj_num2 (v := 9) (q := 44) (by decide) dX3_pressTop_42 rfl ?_
  refine mj_imul (q := 45) dX3_pressTop_44 rfl ?_
  refine mj_num2 (v := 10) (q := 47) (by decide) dX3_pressTop_45 rfl ?_
  refine mj_idiv (q := 48) (by decide) dX3_pressTop_47 rfl ?_
  refine mj_num3 (v := 300) (q := 51) (by decide) dX3_pressTop_48 rfl ?_
  refine mj_mmin (q := 54) dX3_pressTop_51 ln_X3_48 (Nat.le_of_ble_eq_true rfl) rfl ?_
  refine mj_iastn (q := 55) dX3_pressTop_54 rfl (by first | assumption | exact (mj_upn (by omega)).trans (by assumption) | exact (mj_upn (by omega)).trans ((mj_upn (by omega)).trans (by assumption)) | exact (mj_upn (by omega)).trans ((mj_upn (by omega)).trans ((mj_upn (by omega)).trans (by assumption)))) (by omega) ?_
  refine mj_aload_n (i := 0) (q := 56) dX3_pressTop_55 rfl rfl rfl ?_
  refine mj_getr (q := 59) dX3_pressTop_56 fl_X3_15 rfl rfl (by first | assumption | exact (mj_upn (by omega)).trans (by assumption) | exact (mj_upn (by omega)).trans ((mj_upn (by omega)).trans (by assumption)) | exact (mj_upn (by omega)).trans ((mj_upn (by omega)).trans ((mj_upn (by omega)).trans (by assumption)))) (by first | assumption | exact (mj_upn (by omega)).trans (by assumption) | exact (mj_upn (by omega)).trans ((mj_upn (by omega)).trans (by assumption)) | exact (mj_upn (by omega)).trans ((mj_upn (by omega)).trans ((mj_upn (by omega)).trans (by assumption)))) ?_
  refine mj_iload_n (i := 2) (q := 60) dX3_pressTop_59 rfl rfl rfl ?_
  refine mj_aload_n (i := 0) (q := 61) dX3_pressTop_60 rfl rfl rfl ?_
  refine mj_getr (q := 64) dX3_pressTop_61 fl_X3_15 rfl rfl (by first | assumption | exact (mj_upn (by omega)).trans (by assumption) | exact (mj_upn (by omega)).trans ((mj_upn (by omega)).trans (by assumption)) | exact (mj_upn (by omega)).trans ((mj_upn (by omega)).trans ((mj_upn (by omega)).trans (by assumption)))) (by first | assumption | exact (mj_upn (by omega)).trans (by assumption) | exact (mj_upn (by omega)).trans ((mj_upn (by omega)).trans (by assumption)) | exact (mj_upn (by omega)).trans ((mj_upn (by omega)).trans ((mj_upn (by omega)).trans (by assumption)))) ?_
  refine mj_iload_n (i := 2) (q := 65) dX3_pressTop_64 rfl rfl rfl ?_
  refine mj_ialdn (q := 66) dX3_pressTop_65 rfl (by first | assumption | exact (mj_upn (by omega)).trans (by assumption) | exact (mj_upn (by omega)).trans ((mj_upn (by omega)).trans (by assumption)) | exact (mj_upn (by omega)).trans ((mj_upn (by omega)).trans ((mj_upn (by omega)).trans (by assumption)))) (by omega) ?_
  refine mj_aload_n (i := 0) (q := 67) dX3_pressTop_66 rfl rfl rfl ?_
  refine mj_getr (q := 70) dX3_pressTop_67 fl_X3_15 rfl rfl (by first | assumption | exact (mj_upn (by omega)).trans (by assumption) | exact (mj_upn (by omega)).trans ((mj_upn (by omega)).trans (by assumption)) | exact (mj_upn (by omega)).trans ((mj_upn (by omega)).trans ((mj_upn (by omega)).trans (by assumption)))) (by first | assumption | exact (mj_upn (by omega)).trans (by assumption) | exact (mj_upn (by omega)).trans ((mj_upn (by omega)).trans (by assumption)) | exact (mj_upn (by omega)).trans ((mj_upn (by omega)).trans ((mj_upn (by omega)).trans (by assumption)))) ?_
  refine mj_iload_n (i := 1) (q := 71) dX3_pressTop_70 rfl rfl rfl ?_
  refine mj_ialdn (q := 72) dX3_pressTop_71 rfl (by first | assumption | exact (mj_upn (by omega)).trans (by assumption) | exact (mj_upn (by omega)).trans ((mj_upn (by omega)).trans (by assumption)) | exact (mj_upn (by omega)).trans ((mj_upn (by omega)).trans ((mj_upn (by omega)).trans (by assumption)))) (by omega) ?_
  refine mj_mmax (q := 75) dX3_pressTop_72 ln_X3_42 (Nat.le_of_ble_eq_true rfl) rfl ?_
  refine mj_num2 (v := 10) (q := 77) (by decide) dX3_pressTop_75 rfl ?_
  refine mj_iadd (q := 78) dX3_pressTop_77 rfl ?_
  refine mj_num2 (v := 100) (q := 80) (by decide) dX3_pressTop_78 rfl ?_
  refine mj_mmin (q := 83) dX3_pressTop_80 ln_X3_48 (Nat.le_of_ble_eq_true rfl) rfl ?_
  refine mj_iastn (q := 84) dX3_pressTop_83 rfl (by first | assumption | exact (mj_upn (by omega)).trans (by assumption) | exact (mj_upn (by omega)).trans ((mj_upn (by omega)).trans (by assumption)) | exact (mj_upn (by omega)).trans ((mj_upn (by omega)).trans ((mj_upn (by omega)).trans (by assumption)))) (by omega) ?_
  refine mj_aload_n (i := 0) (q := 85) dX3_pressTop_84 rfl rfl rfl ?_
  refine mj_getr (q := 88) dX3_pressTop_85 fl_X3_18 rfl rfl (by first | assumption | exact (mj_upn (by omega)).trans (by assumption) | exact (mj_upn (by omega)).trans ((mj_upn (by omega)).trans (by assumption)) | exact (mj_upn (by omega)).trans ((mj_upn (by omega)).trans ((mj_upn (by omega)).trans (by assumption)))) (by first | assumption | exact (mj_upn (by omega)).trans (by assumption) | exact (mj_upn (by omega)).trans ((mj_upn (by omega)).trans (by assumption)) | exact (mj_upn (by omega)).trans ((mj_upn (by omega)).trans ((mj_upn (by omega)).trans (by assumption)))) ?_
  refine mj_iload_n (i := 2) (q := 89) dX3_pressTop_88 rfl rfl rfl ?_
  refine mj_num1 (v := 3) (q := 90) rfl dX3_pressTop_89 rfl ?_
  refine mj_iastn (q := 91) dX3_pressTop_90 rfl (by first | assumption | exact (mj_upn (by omega)).trans (by assumption) | exact (mj_upn (by omega)).trans ((mj_upn (by omega)).trans (by assumption)) | exact (mj_upn (by omega)).trans ((mj_upn (by omega)).trans ((mj_upn (by omega)).trans (by assumption)))) (by omega) ?_
  refine mj_aload_n (i := 0) (q := 92) dX3_pressTop_91 rfl rfl rfl ?_
  refine mj_iload_n (i := 1) (q := 93) dX3_pressTop_92 rfl rfl rfl ?_
  refine mj_putf (q := 96) dX3_pressTop_93 fl_X3_27 rfl rfl (by first | assumption | exact (mj_upn (by omega)).trans (by assumption) | exact (mj_upn (by omega)).trans ((mj_upn (by omega)).trans (by assumption)) | exact (mj_upn (by omega)).trans ((mj_upn (by omega)).trans ((mj_upn (by omega)).trans (by assumption)))) rfl rfl rfl ?_
  refine mj_aload_n (i := 0) (q := 97) dX3_pressTop_96 rfl rfl rfl ?_
  refine mj_num1 (v := 0) (q := 98) rfl dX3_pressTop_97 rfl ?_
  refine mj_putf (q := 101) dX3_pressTop_98 fl_X3_31 rfl rfl (by first | assumption | exact (mj_upn (by omega)).trans (by assumption) | exact (mj_upn (by omega)).trans ((mj_upn (by omega)).trans (by assumption)) | exact (mj_upn (by omega)).trans ((mj_upn (by omega)).trans ((mj_upn (by omega)).trans (by assumption)))) rfl rfl rfl ?_
  refine mj_aload_n (i := 0) (q := 102) dX3_pressTop_101 rfl rfl rfl ?_
  refine mj_getr (q := 105) dX3_pressTop_102 fl_X3_9 rfl rfl (by first | assumption | exact (mj_upn (by omega)).trans (by assumption) | exact (mj_upn (by omega)).trans ((mj_upn (by omega)).trans (by assumption)) | exact (mj_upn (by omega)).trans ((mj_upn (by omega)).trans ((mj_upn (by omega)).trans (by assumption)))) (by first | assumption | exact (mj_upn (by omega)).trans (by assumption) | exact (mj_upn (by omega)).trans ((mj_upn (by omega)).trans (by assumption)) | exact (mj_upn (by omega)).trans ((mj_upn (by omega)).trans ((mj_upn (by omega)).trans (by assumption)))) ?_
  refine mj_iload_n (i := 2) (q := 106) dX3_pressTop_105 rfl rfl rfl ?_
  refine mj_ialdn (q := 107) dX3_pressTop_106 rfl (by first | assumption | exact (mj_upn (by omega)).trans (by assumption) | exact (mj_upn (by omega)).trans ((mj_upn (by omega)).trans (by assumption)) | exact (mj_upn (by omega)).trans ((mj_upn (by omega)).trans ((mj_upn (by omega)).trans (by assumption)))) (by omega) ?_
  refine mj_ireturn dX3_pressTop_107 ⟨_, rfl, rfl⟩ ⟨_, rfl, _, rfl, ?_, ?_, ?_⟩
  · refine ⟨by simp only [vPress]; omega, ?_, ?_, ?_, ?_, ?_, ?_, ?_, ?_⟩
    · simp [mj_up, vPress, b0, b1, b2, b3, b4, b5, b6, b7, b8]
    · simp [mj_up, vPress, b0, b1, b2, b3, b4, b5, b6, b7, b8]
    · simp [mj_up, vPress, b0, b1, b2, b3, b4, b5, b6, b7, b8]
    · intro k hk; rw [b4 c (by omega), b4 (c + 1) (by omega)]; simp [mj_up, upd, vPress, vMin, b0, b1, b2, b3, b4, b5, b6, b7, b8, hk]
    · intro k hk
      have q0 := b5 c (by omega)
      have q1 := b5 (c + 1) (by omega)
      have qk := b5 k hk
      simp only [vPress, upd]
      by_cases hkc : k = c
      · subst hkc; simp [mj_up, vMin, vMax, q0, q1]; rfl
      · simp [mj_up, hkc, qk]
    · intro k hk; simp [mj_up, upd, vPress, b0, b1, b2, b3, b4, b5, b6, b7, b8, hk]
    · simp [vPress]
    · simp [vPress, b8]
  · repeat (first | exact mj_Fr.rf | exact (by assumption) | refine mj_Fr.up ?_ (by omega) (by omega))
  · simp [mj_up, upd, vPress, vMin, b4 c (by omega), b4 (c + 1) (by omega)]
set_option maxHeartbeats 4000000 in
set_option maxRecDepth 100000 in
theorem s_stress {d s l : Nat} {ab slope : Int32} {n : Nat} {K : Nat → mj_K} {f : Nat → Nat → Int32} {g : Nat → Nat → Option Nat} {x : sV} (hL : LSn K g s) (hS : SN f s x) (hl : l < 8) : mj_Ci m_X3_stress d [.ref s, .int (nI l), .int ab, .int slope] (n, K, f, g) (fun r h1 => h1 = (n, K, f, g) ∧ r = vStress l ab slope x) := by
  obtain ⟨k0, k1, k2, k3, g0, g1, g2⟩ := hL
  obtain ⟨c, w, sn, D, H, T⟩ := x
  obtain ⟨b0, b1, b2, b3, b4, b5, b6, b7, b8⟩ := hS
  dsimp only at b0 b1 b2 b3 b4 b5 b6 b7 b8
  refine mj_entry (by refine ⟨by decide +kernel, by decide, rfl, Nat.le_of_ble_eq_true rfl⟩) ?_
  show mj_W _ _ _ _ _ 0 [.ref s, .int (nI l), .int ab, .int slope, .null, .null] [] _
  refine mj_aload_n (i := 0) (q := 1) dX3_stress_0 rfl rfl rfl ?_
  refine mj_getr (q := 4) dX3_stress_1 fl_X3_15 rfl rfl (by first | assumption | exact (mj_upn (by omega)).trans (by assumption) | exact (mj_upn (by omega)).trans ((mj_upn (by omega)).trans (by assumption)) | exact (mj_upn (by omega)).trans ((mj_upn (by omega)).trans ((mj_upn (by omega)).trans (by assumption)))) (by first | assumption | exact (mj_upn (by omega)).trans (by assumption) | exact (mj_upn (by omega)).trans ((mj_upn (by omega)).trans (by assumption)) | exact (mj_upn (by omega)).trans ((mj_upn (by omega)).trans ((mj_upn (by omega)).trans (by assumption)))) ?_
  refine mj_iload_n (i := 1) (q := 5) dX3_stress_4 rfl rfl rfl ?_
  refine mj_ialdn (q := 6) dX3_stress_5 rfl (by first | assumption | exact (mj_upn (by omega)).trans (by assumption) | exact (mj_upn (by omega)).trans ((mj_upn (by omega)).trans (by assumption)) | exact (mj_upn (by omega)).trans ((mj_upn (by omega)).trans ((mj_upn (by omega)).trans (by assumption)))) (by omega) ?_
  refine mj_top (b5 l hl) ?_
  refine mj_num1 (v := 1) (q := 7) rfl dX3_stress_6 rfl ?_
  refine mj_iadd (q := 8) dX3_stress_7 rfl ?_
  refine mj_istore (i := 4) (q := 10) dX3_stress_8 rfl (by decide) rfl ?_
  dsimp only [List.set]
  refine mj_iload (i := 4) (q := 12) dX3_stress_10 rfl rfl ?_
  refine mj_num1 (v := 1) (q := 13) rfl dX3_stress_12 rfl ?_
  refine mj_icmp_ge (tgt := 18) (q := 16) dX3_stress_13 (by decide) rfl (fun c_13 => ?_) (fun c_13 => ?_)
  · refine mj_iload_n (i := 2) (q := 19) dX3_stress_18 rfl rfl rfl ?_
    refine mj_iload_n (i := 3) (q := 20) dX3_stress_19 rfl rfl rfl ?_
    refine mj_num2 (v := 20) (q := 22) (by decide) dX3_stress_20 rfl ?_
    refine mj_isub (q := 23) dX3_stress_22 rfl ?_
    refine mj_imul (q := 24) dX3_stress_23 rfl ?_
    refine mj_iload (i := 4) (q := 26) dX3_stress_24 rfl rfl ?_
    refine mj_idiv (q := 27) (fun z => by rw [z] at c_13; exact absurd c_13 (by decide)) dX3_stress_26 rfl ?_
    refine mj_istore (i := 5) (q := 29) dX3_stress_27 rfl (by decide) rfl ?_
    dsimp only [List.set]
    refine mj_aload_n (i := 0) (q := 30) dX3_stress_29 rfl rfl rfl ?_
    refine mj_getr (q := 33) dX3_stress_30 fl_X3_18 rfl rfl (by first | assumption | exact (mj_upn (by omega)).trans (by assumption) | exact (mj_upn (by omega)).trans ((mj_upn (by omega)).trans (by assumption)) | exact (mj_upn (by omega)).trans ((mj_upn (by omega)).trans ((mj_upn (by omega)).trans (by assumption)))) (by first | assumption | exact (mj_upn (by omega)).trans (by assumption) | exact (mj_upn (by omega)).trans ((mj_upn (by omega)).trans (by assumption)) | exact (mj_upn (by omega)).trans ((mj_upn (by omega)).trans ((mj_upn (by omega)).trans (by assumption)))) ?_
    refine mj_iload_n (i := 1) (q := 34) dX3_stress_33 rfl rfl rfl ?_
    refine mj_ialdn (q := 35) dX3_stress_34 rfl (by first | assumption | exact (mj_upn (by omega)).trans (by assumption) | exact (mj_upn (by omega)).trans ((mj_upn (by omega)).trans (by assumption)) | exact (mj_upn (by omega)).trans ((mj_upn (by omega)).trans ((mj_upn (by omega)).trans (by assumption)))) (by omega) ?_
    refine mj_top (b6 l hl) ?_
    refine mj_num1 (v := 1) (q := 36) rfl dX3_stress_35 rfl ?_
    refine mj_icmp_ne (tgt := 46) (q := 39) dX3_stress_36 (by decide) rfl (fun c_36 => ?_) (fun c_36 => ?_)
    · refine mj_iload (i := 5) (q := 48) dX3_stress_46 rfl rfl ?_
      exact mj_ireturn dX3_stress_48 ⟨_, rfl, rfl⟩ ⟨_, rfl, ⟨rfl, by have c9 := Int32.not_lt.mpr c_13; simp [vStress, c9, c_36]⟩⟩
    · refine mj_num1 (v := 2) (q := 40) rfl dX3_stress_39 rfl ?_
      refine mj_iload (i := 5) (q := 42) dX3_stress_40 rfl rfl ?_
      refine mj_imul (q := 43) dX3_stress_42 rfl ?_
      refine mj_goto (q := 48) dX3_stress_43 (by decide) ?_
      exact mj_ireturn dX3_stress_48 ⟨_, rfl, rfl⟩ ⟨_, rfl, ⟨rfl, by have c9 := Int32.not_lt.mpr c_13; simp [vStress, c9, c_36]⟩⟩
  · refine mj_num1 (v := 0) (q := 17) rfl dX3_stress_16 rfl ?_
    exact mj_ireturn dX3_stress_17 ⟨_, rfl, rfl⟩ ⟨_, rfl, ⟨rfl, by have c9 := Int32.not_le.mp c_13; simp [vStress, c9]⟩⟩
set_option maxHeartbeats 4000000 in
set_option maxRecDepth 100000 in
theorem s_depthFrom {d s lo : Nat} {n : Nat} {K : Nat → mj_K} {f : Nat → Nat → Int32} {g : Nat → Nat → Option Nat} {x : sV} (hL : LSn K g s) (hS : SN f s x) (hlo : lo ≤ 9) : mj_Ci m_X3_depthFrom (d + 1) [.ref s, .int (nI lo)] (n, K, f, g) (fun r h1 => h1 = (n, K, f, g) ∧ r = vDepth lo x) := by
  obtain ⟨k0, k1, k2, k3, g0, g1, g2⟩ := hL
  obtain ⟨c, w, sn, D, H, T⟩ := x
  obtain ⟨b0, b1, b2, b3, b4, b5, b6, b7, b8⟩ := hS
  dsimp only at b0 b1 b2 b3 b4 b5 b6 b7 b8
  have key : ∀ (j i : Nat), i + j = c - lo → mj_W m_X3_depthFrom (d + 1) 0 0 (fun v h1 => ∃ r, v = some (.int r) ∧ h1 = (n, K, f, g) ∧ r = vDepth lo (c, w, sn, D, H, T)) 8 [.ref s, .int (nI lo), .int (vSum D lo i), .int (nI (lo + i))] [] (n, K, f, g) := by
    intro j
    induction j with
    | zero =>
      intro i hi
      refine mj_iload_n (i := 3) (q := 9) dX3_depthFrom_8 rfl rfl rfl ?_
      refine mj_aload_n (i := 0) (q := 10) dX3_depthFrom_9 rfl rfl rfl ?_
      refine mj_getfv (q := 13) dX3_depthFrom_10 fl_X3_27 rfl rfl (by first | assumption | exact (mj_upn (by omega)).trans (by assumption) | exact (mj_upn (by omega)).trans ((mj_upn (by omega)).trans (by assumption)) | exact (mj_upn (by omega)).trans ((mj_upn (by omega)).trans ((mj_upn (by omega)).trans (by assumption)))) (by first | assumption | exact (mj_upn (by omega)).trans (by assumption) | exact (mj_upn (by omega)).trans ((mj_upn (by omega)).trans (by assumption)) | exact (mj_upn (by omega)).trans ((mj_upn (by omega)).trans ((mj_upn (by omega)).trans (by assumption)))) ?_
      refine mj_icmp_ge (tgt := 31) (q := 16) dX3_depthFrom_13 (by decide) rfl (fun c_13 => ?_) (fun c_13 => absurd (nI_le (a := c) (b := lo + i) (by omega) (by omega)) c_13)
      refine mj_iload_n (i := 2) (q := 32) dX3_depthFrom_31 rfl rfl rfl ?_
      exact mj_ireturn dX3_depthFrom_32 ⟨_, rfl, rfl⟩ ⟨_, rfl, ⟨rfl, by simp only [vDepth]; rw [← hi, Nat.add_zero]⟩⟩
    | succ j ih =>
      intro i hi
      refine mj_iload_n (i := 3) (q := 9) dX3_depthFrom_8 rfl rfl rfl ?_
      refine mj_aload_n (i := 0) (q := 10) dX3_depthFrom_9 rfl rfl rfl ?_
      refine mj_getfv (q := 13) dX3_depthFrom_10 fl_X3_27 rfl rfl (by first | assumption | exact (mj_upn (by omega)).trans (by assumption) | exact (mj_upn (by omega)).trans ((mj_upn (by omega)).trans (by assumption)) | exact (mj_upn (by omega)).trans ((mj_upn (by omega)).trans ((mj_upn (by omega)).trans (by assumption)))) (by first | assumption | exact (mj_upn (by omega)).trans (by assumption) | exact (mj_upn (by omega)).trans ((mj_upn (by omega)).trans (by assumption)) | exact (mj_upn (by omega)).trans ((mj_upn (by omega)).trans ((mj_upn (by omega)).trans (by assumption)))) ?_
      refine mj_icmp_ge (tgt := 31) (q := 16) dX3_depthFrom_13 (by decide) rfl (fun c_13 => absurd c_13 (nI_ge (a := lo + i) (b := c) (by omega) (by omega))) (fun c_13 => ?_)
      refine mj_iload_n (i := 2) (q := 17) dX3_depthFrom_16 rfl rfl rfl ?_
      refine mj_aload_n (i := 0) (q := 18) dX3_depthFrom_17 rfl rfl rfl ?_
      refine mj_getr (q := 21) dX3_depthFrom_18 fl_X3_9 rfl rfl (by first | assumption | exact (mj_upn (by omega)).trans (by assumption) | exact (mj_upn (by omega)).trans ((mj_upn (by omega)).trans (by assumption)) | exact (mj_upn (by omega)).trans ((mj_upn (by omega)).trans ((mj_upn (by omega)).trans (by assumption)))) (by first | assumption | exact (mj_upn (by omega)).trans (by assumption) | exact (mj_upn (by omega)).trans ((mj_upn (by omega)).trans (by assumption)) | exact (mj_upn (by omega)).trans ((mj_upn (by omega)).trans ((mj_upn (by omega)).trans (by assumption)))) ?_
      refine mj_iload_n (i := 3) (q := 22) dX3_depthFrom_21 rfl rfl rfl ?_
      refine mj_ialdn (q := 23) dX3_depthFrom_22 rfl (by first | assumption | exact (mj_upn (by omega)).trans (by assumption) | exact (mj_upn (by omega)).trans ((mj_upn (by omega)).trans (by assumption)) | exact (mj_upn (by omega)).trans ((mj_upn (by omega)).trans ((mj_upn (by omega)).trans (by assumption)))) (by omega) ?_
      refine mj_top (b4 (lo + i) (by omega)) ?_
      refine mj_iadd (q := 24) dX3_depthFrom_23 rfl ?_
      refine mj_istore_n (i := 2) (q := 25) dX3_depthFrom_24 rfl rfl (by decide) rfl ?_
      dsimp only [List.set]
      refine mj_iinc (i := 3) (q := 28) dX3_depthFrom_25 rfl rfl (by decide) rfl ?_
      dsimp only [List.set]
      refine mj_goto (q := 8) dX3_depthFrom_28 (by decide) ?_
      rw [show nI (lo + i) + Int32.ofInt 1 = nI (lo + (i + 1)) from nI_1 (lo + i)]
      exact ih (i + 1) (by omega)
  refine mj_entry (by refine ⟨by decide +kernel, by decide, rfl, Nat.le_of_ble_eq_true rfl⟩) ?_
  show mj_W _ _ _ _ _ 0 [.ref s, .int (nI lo), .null, .null] [] _
  refine mj_num1 (v := 0) (q := 1) rfl dX3_depthFrom_0 rfl ?_
  refine mj_istore_n (i := 2) (q := 2) dX3_depthFrom_1 rfl rfl (by decide) rfl ?_
  dsimp only [List.set]
  refine mj_iload_n (i := 1) (q := 3) dX3_depthFrom_2 rfl rfl rfl ?_
  refine mj_num1 (v := 0) (q := 4) rfl dX3_depthFrom_3 rfl ?_
  refine mj_mmax (q := 7) dX3_depthFrom_4 ln_X3_42 (Nat.le_of_ble_eq_true rfl) rfl ?_
  refine mj_top (y := nI lo) (by split <;> first | rfl | (rename_i z; exact absurd z (nI_pos (by omega)))) ?_
  refine mj_istore_n (i := 3) (q := 8) dX3_depthFrom_7 rfl rfl (by decide) rfl ?_
  dsimp only [List.set]
  exact key (c - lo) 0 (by omega)
set_option maxHeartbeats 4000000 in
set_option maxRecDepth 100000 in
theorem s_wholeDepth {d s : Nat} {n : Nat} {K : Nat → mj_K} {f : Nat → Nat → Int32} {g : Nat → Nat → Option Nat} {x : sV} (hL : LSn K g s) (hS : SN f s x) : mj_Ci m_X3_wholeDepth (d + 2) [.ref s] (n, K, f, g) (fun r h1 => h1 = (n, K, f, g) ∧ r = vDepth 0 x) := by
  have hL2 := hL
  obtain ⟨k0, k1, k2, k3, g0, g1, g2⟩ := hL
  refine mj_entry (by refine ⟨by decide +kernel, by decide, rfl, Nat.le_of_ble_eq_true rfl⟩) ?_
  show mj_W _ _ _ _ _ 0 [.ref s] [] _
  refine mj_aload_n (i := 0) (q := 1) dX3_wholeDepth_0 rfl rfl rfl ?_
  refine mj_num1 (v := nI 0) (q := 2) (by decide) dX3_wholeDepth_1 rfl ?_
  refine mj_cV1i (K := m_X3_depthFrom) (q := 5) dX3_wholeDepth_2 ln_X3_38 ok_X3_depthFrom (Nat.le_of_ble_eq_true rfl) (by decide) (by first | assumption | exact (mj_upn (by omega)).trans (by assumption) | exact (mj_upn (by omega)).trans ((mj_upn (by omega)).trans (by assumption)) | exact (mj_upn (by omega)).trans ((mj_upn (by omega)).trans ((mj_upn (by omega)).trans (by assumption)))) rfl rfl (s_depthFrom hL2 hS (by omega)) (fun r_2 h1 hq => ?_)
  obtain ⟨rfl, rfl⟩ := hq
  exact mj_ireturn dX3_wholeDepth_5 ⟨_, rfl, rfl⟩ ⟨_, rfl, ⟨rfl, rfl⟩⟩
set_option maxHeartbeats 4000000 in
set_option maxRecDepth 100000 in
theorem s_shear {d s : Nat} {slope : Int32} {n : Nat} {K : Nat → mj_K} {f : Nat → Nat → Int32} {g : Nat → Nat → Option Nat} {x : sV} (hL : LSn K g s) (hS : SN f s x) : mj_Ci m_X3_shear (d + 1) [.ref s, .int slope] (n, K, f, g) (fun r h1 => h1 = (n, K, f, g) ∧ r = vShear slope x) := by
  have hL2 := hL
  have hS2 := hS
  obtain ⟨k0, k1, k2, k3, g0, g1, g2⟩ := hL
  obtain ⟨c, w, sn, D, H, T⟩ := x
  obtain ⟨b0, b1, b2, b3, b4, b5, b6, b7, b8⟩ := hS
  dsimp only at b0 b1 b2 b3 b4 b5 b6 b7 b8
  have key : 25 ≤ slope → ∀ (l : Nat) (sh gr ab : Int32) (v6 : Value), l ≤ c → vShear slope (c, w, sn, D, H, T) = vShearL slope (c, w, sn, D, H, T) l sh gr ab → mj_W m_X3_shear (d + 1) 0 0 (fun v h1 => ∃ r, v = some (.int r) ∧ h1 = (n, K, f, g) ∧ r = vShear slope (c, w, sn, D, H, T)) 23 [.ref s, .int slope, .int sh, .int gr, .int ab, .int (nI l - 1), v6] [] (n, K, f, g) := by
    intro hsl l
    induction l with
    | zero =>
      intro sh gr ab v6 hl he
      refine mj_iload (i := 5) (q := 25) dX3_shear_23 rfl rfl ?_
      refine mj_if_lt (tgt := 74) (q := 28) dX3_shear_25 (by decide) rfl (fun c_25 => ?_) (fun c_25 => absurd (by decide) c_25)
      refine mj_iload_n (i := 2) (q := 75) dX3_shear_74 rfl rfl rfl ?_
      exact mj_ireturn dX3_shear_75 ⟨_, rfl, rfl⟩ ⟨_, rfl, ⟨rfl, by rw [he]; rfl⟩⟩
    | succ l ih =>
      intro sh gr ab v6 hl he
      rw [nI_pred l]
      have e9 : vStress l ab slope (c, w, sn, D, H, T) = vStress l ab slope (c, w, sn, D, H, T) := rfl
      simp only [vShearL] at he
      refine mj_iload (i := 5) (q := 25) dX3_shear_23 rfl rfl ?_
      refine mj_if_lt (tgt := 74) (q := 28) dX3_shear_25 (by decide) rfl (fun c_25 => absurd c_25 (nI_pos (by omega))) (fun c_25 => ?_)
      refine mj_aload_n (i := 0) (q := 29) dX3_shear_28 rfl rfl rfl ?_
      refine mj_iload (i := 5) (q := 31) dX3_shear_29 rfl rfl ?_
      refine mj_iload (i := 4) (q := 33) dX3_shear_31 rfl rfl ?_
      refine mj_iload_n (i := 1) (q := 34) dX3_shear_33 rfl rfl rfl ?_
      refine mj_cV3i (K := m_X3_stress) (q := 37) dX3_shear_34 ln_X3_58 ok_X3_stress (Nat.le_of_ble_eq_true rfl) (by decide) (by first | assumption | exact (mj_upn (by omega)).trans (by assumption) | exact (mj_upn (by omega)).trans ((mj_upn (by omega)).trans (by assumption)) | exact (mj_upn (by omega)).trans ((mj_upn (by omega)).trans ((mj_upn (by omega)).trans (by assumption)))) rfl rfl (s_stress hL2 hS2 (l := l) (by omega)) (fun r_34 h1 hq => ?_)
      obtain ⟨rfl, rfl⟩ := hq
      refine mj_istore (i := 6) (q := 39) dX3_shear_37 rfl (by decide) rfl ?_
      dsimp only [List.set]
      refine mj_iload (i := 6) (q := 41) dX3_shear_39 rfl rfl ?_
      refine mj_if_le (tgt := 56) (q := 44) dX3_shear_41 (by decide) rfl (fun c_41 => ?_) (fun c_41 => ?_)
      · refine mj_iload (i := 4) (q := 58) dX3_shear_56 rfl rfl ?_
        refine mj_aload_n (i := 0) (q := 59) dX3_shear_58 rfl rfl rfl ?_
        refine mj_getr (q := 62) dX3_shear_59 fl_X3_9 rfl rfl (by first | assumption | exact (mj_upn (by omega)).trans (by assumption) | exact (mj_upn (by omega)).trans ((mj_upn (by omega)).trans (by assumption)) | exact (mj_upn (by omega)).trans ((mj_upn (by omega)).trans ((mj_upn (by omega)).trans (by assumption)))) (by first | assumption | exact (mj_upn (by omega)).trans (by assumption) | exact (mj_upn (by omega)).trans ((mj_upn (by omega)).trans (by assumption)) | exact (mj_upn (by omega)).trans ((mj_upn (by omega)).trans ((mj_upn (by omega)).trans (by assumption)))) ?_
        refine mj_iload (i := 5) (q := 64) dX3_shear_62 rfl rfl ?_
        refine mj_ialdn (q := 65) dX3_shear_64 rfl (by first | assumption | exact (mj_upn (by omega)).trans (by assumption) | exact (mj_upn (by omega)).trans ((mj_upn (by omega)).trans (by assumption)) | exact (mj_upn (by omega)).trans ((mj_upn (by omega)).trans ((mj_upn (by omega)).trans (by assumption)))) (by omega) ?_
        refine mj_top (b4 l (by omega)) ?_
        refine mj_iadd (q := 66) dX3_shear_65 rfl ?_
        refine mj_istore (i := 4) (q := 68) dX3_shear_66 rfl (by decide) rfl ?_
        dsimp only [List.set]
        refine mj_iinc (i := 5) (q := 71) dX3_shear_68 rfl rfl (by decide) rfl ?_
        dsimp only [List.set]
        refine mj_goto (q := 23) dX3_shear_71 (by decide) ?_
        rw [nI_dec]
        refine ih _ _ _ _ (by omega) ?_
        first | exact he.trans (if_pos ⟨Int32.not_le.mp c_41, Int32.not_lt.mp c_47⟩) | exact he.trans (if_neg (fun z => absurd z.1 (Int32.not_lt.mpr c_41))) | exact he.trans (if_neg (fun z => absurd c_47 (Int32.not_lt.mpr z.2)))
      · refine mj_iload (i := 6) (q := 46) dX3_shear_44 rfl rfl ?_
        refine mj_iload_n (i := 3) (q := 47) dX3_shear_46 rfl rfl rfl ?_
        refine mj_icmp_lt (tgt := 56) (q := 50) dX3_shear_47 (by decide) rfl (fun c_47 => ?_) (fun c_47 => ?_)
        · refine mj_iload (i := 4) (q := 58) dX3_shear_56 rfl rfl ?_
          refine mj_aload_n (i := 0) (q := 59) dX3_shear_58 rfl rfl rfl ?_
          refine mj_getr (q := 62) dX3_shear_59 fl_X3_9 rfl rfl (by first | assumption | exact (mj_upn (by omega)).trans (by assumption) | exact (mj_upn (by omega)).trans ((mj_upn (by omega)).trans (by assumption)) | exact (mj_upn (by omega)).trans ((mj_upn (by omega)).trans ((mj_upn (by omega)).trans (by assumption)))) (by first | assumption | exact (mj_upn (by omega)).trans (by assumption) | exact (mj_upn (by omega)).trans ((mj_upn (by omega)).trans (by assumption)) | exact (mj_upn (by omega)).trans ((mj_upn (by omega)).trans ((mj_upn (by omega)).trans (by assumption)))) ?_
          refine mj_iload (i := 5) (q := 64) dX3_shear_62 rfl rfl ?_
          refine mj_ialdn (q := 65) dX3_shear_64 rfl (by first | assumption | exact (mj_upn (by omega)).trans (by assumption) | exact (mj_upn (by omega)).trans ((mj_upn (by omega)).trans (by assumption)) | exact (mj_upn (by omega)).trans ((mj_upn (by omega)).trans ((mj_upn (by omega)).trans (by assumption)))) (by omega) ?_
          refine mj_top (b4 l (by omega)) ?_
          refine mj_iadd (q := 66) dX3_shear_65 rfl ?_
          refine mj_istore (i := 4) (q := 68) dX3_shear_66 rfl (by decide) rfl ?_
          dsimp only [List.set]
          refine mj_iinc (i := 5) (q := 71) dX3_shear_68 rfl rfl (by decide) rfl ?_
          dsimp only [List.set]
          refine mj_goto (q := 23) dX3_shear_71 (by decide) ?_
          rw [nI_dec]
          refine ih _ _ _ _ (by omega) ?_
          first | exact he.trans (if_pos ⟨Int32.not_le.mp c_41, Int32.not_lt.mp c_47⟩) | exact he.trans (if_neg (fun z => absurd z.1 (Int32.not_lt.mpr c_41))) | exact he.trans (if_neg (fun z => absurd c_47 (Int32.not_lt.mpr z.2)))
        · refine mj_iload (i := 6) (q := 52) dX3_shear_50 rfl rfl ?_
          refine mj_istore_n (i := 3) (q := 53) dX3_shear_52 rfl rfl (by decide) rfl ?_
          dsimp only [List.set]
          refine mj_iload (i := 5) (q := 55) dX3_shear_53 rfl rfl ?_
          refine mj_istore_n (i := 2) (q := 56) dX3_shear_55 rfl rfl (by decide) rfl ?_
          dsimp only [List.set]
          refine mj_iload (i := 4) (q := 58) dX3_shear_56 rfl rfl ?_
          refine mj_aload_n (i := 0) (q := 59) dX3_shear_58 rfl rfl rfl ?_
          refine mj_getr (q := 62) dX3_shear_59 fl_X3_9 rfl rfl (by first | assumption | exact (mj_upn (by omega)).trans (by assumption) | exact (mj_upn (by omega)).trans ((mj_upn (by omega)).trans (by assumption)) | exact (mj_upn (by omega)).trans ((mj_upn (by omega)).trans ((mj_upn (by omega)).trans (by assumption)))) (by first | assumption | exact (mj_upn (by omega)).trans (by assumption) | exact (mj_upn (by omega)).trans ((mj_upn (by omega)).trans (by assumption)) | exact (mj_upn (by omega)).trans ((mj_upn (by omega)).trans ((mj_upn (by omega)).trans (by assumption)))) ?_
          refine mj_iload (i := 5) (q := 64) dX3_shear_62 rfl rfl ?_
          refine mj_ialdn (q := 65) dX3_shear_64 rfl (by first | assumption | exact (mj_upn (by omega)).trans (by assumption) | exact (mj_upn (by omega)).trans ((mj_upn (by omega)).trans (by assumption)) | exact (mj_upn (by omega)).trans ((mj_upn (by omega)).trans ((mj_upn (by omega)).trans (by assumption)))) (by omega) ?_
          refine mj_top (b4 l (by omega)) ?_
          refine mj_iadd (q := 66) dX3_shear_65 rfl ?_
          refine mj_istore (i := 4) (q := 68) dX3_shear_66 rfl (by decide) rfl ?_
          dsimp only [List.set]
          refine mj_iinc (i := 5) (q := 71) dX3_shear_68 rfl rfl (by decide) rfl ?_
          dsimp only [List.set]
          refine mj_goto (q := 23) dX3_shear_71 (by decide) ?_
          rw [nI_dec]
          refine ih _ _ _ _ (by omega) ?_
          first | exact he.trans (if_pos ⟨Int32.not_le.mp c_41, Int32.not_lt.mp c_47⟩) | exact he.trans (if_neg (fun z => absurd z.1 (Int32.not_lt.mpr c_41))) | exact he.trans (if_neg (fun z => absurd c_47 (Int32.not_lt.mpr z.2)))
  refine mj_entry (by refine ⟨by decide +kernel, by decide, rfl, Nat.le_of_ble_eq_true rfl⟩) ?_
  show mj_W _ _ _ _ _ 0 [.ref s, .int slope, .null, .null, .null, .null, .null] [] _
  refine mj_iload_n (i := 1) (q := 1) dX3_shear_0 rfl rfl rfl ?_
  refine mj_num2 (v := 25) (q := 3) (by decide) dX3_shear_1 rfl ?_
  refine mj_icmp_ge (tgt := 8) (q := 6) dX3_shear_3 (by decide) rfl (fun c_3 => ?_) (fun c_3 => ?_)
  · refine mj_num1 (v := (-1)) (q := 9) rfl dX3_shear_8 rfl ?_
    refine mj_istore_n (i := 2) (q := 10) dX3_shear_9 rfl rfl (by decide) rfl ?_
    dsimp only [List.set]
    refine mj_num1 (v := 0) (q := 11) rfl dX3_shear_10 rfl ?_
    refine mj_istore_n (i := 3) (q := 12) dX3_shear_11 rfl rfl (by decide) rfl ?_
    dsimp only [List.set]
    refine mj_num1 (v := 0) (q := 13) rfl dX3_shear_12 rfl ?_
    refine mj_istore (i := 4) (q := 15) dX3_shear_13 rfl (by decide) rfl ?_
    dsimp only [List.set]
    refine mj_aload_n (i := 0) (q := 16) dX3_shear_15 rfl rfl rfl ?_
    refine mj_getfv (q := 19) dX3_shear_16 fl_X3_27 rfl rfl (by first | assumption | exact (mj_upn (by omega)).trans (by assumption) | exact (mj_upn (by omega)).trans ((mj_upn (by omega)).trans (by assumption)) | exact (mj_upn (by omega)).trans ((mj_upn (by omega)).trans ((mj_upn (by omega)).trans (by assumption)))) (by first | assumption | exact (mj_upn (by omega)).trans (by assumption) | exact (mj_upn (by omega)).trans ((mj_upn (by omega)).trans (by assumption)) | exact (mj_upn (by omega)).trans ((mj_upn (by omega)).trans ((mj_upn (by omega)).trans (by assumption)))) ?_
    refine mj_num1 (v := 1) (q := 20) rfl dX3_shear_19 rfl ?_
    refine mj_isub (q := 21) dX3_shear_20 rfl ?_
    refine mj_istore (i := 5) (q := 23) dX3_shear_21 rfl (by decide) rfl ?_
    dsimp only [List.set]
    exact key c_3 c _ _ _ _ (Nat.le_refl c) (by simp only [vShear]; rw [if_pos c_3])
  · refine mj_num1 (v := (-1)) (q := 7) rfl dX3_shear_6 rfl ?_
    exact mj_ireturn dX3_shear_7 ⟨_, rfl, rfl⟩ ⟨_, rfl, ⟨rfl, by simp only [vShear]; rw [if_neg c_3]⟩⟩
theorem vShearL_rng (slope : Int32) (x : sV) : ∀ (l : Nat) (sh gr ab : Int32), l ≤ x.1 → (sh = -1 ∨ ∃ k, k < x.1 ∧ sh = nI k) → (vShearL slope x l sh gr ab = -1 ∨ ∃ k, k < x.1 ∧ vShearL slope x l sh gr ab = nI k)
  | 0, sh, gr, ab, _, h => h
  | l + 1, sh, gr, ab, hl, h => by
    rw [vShearL]
    split
    · exact vShearL_rng slope x l _ _ _ (by omega) (Or.inr ⟨l, by omega, rfl⟩)
    · exact vShearL_rng slope x l _ _ _ (by omega) h
theorem vShear_rng (slope : Int32) (x : sV) : vShear slope x = -1 ∨ ∃ k, k < x.1 ∧ vShear slope x = nI k := by
  unfold vShear
  split
  · exact vShearL_rng slope x _ _ _ _ (Nat.le_refl _) (Or.inl rfl)
  · exact Or.inl rfl
set_option maxHeartbeats 4000000 in
set_option maxRecDepth 100000 in
theorem s_risk {d s : Nat} {slope : Int32} {n : Nat} {K : Nat → mj_K} {f : Nat → Nat → Int32} {g : Nat → Nat → Option Nat} {x : sV} (hL : LSn K g s) (hS : SN f s x) : mj_Ci m_X3_risk (d + 2) [.ref s, .int slope] (n, K, f, g) (fun r h1 => h1 = (n, K, f, g) ∧ r = vRisk slope x) := by
  have hL2 := hL
  have hx8 : x.1 ≤ 8 := hS.1
  obtain ⟨k0, k1, k2, k3, g0, g1, g2⟩ := hL
  refine mj_entry (by refine ⟨by decide +kernel, by decide, rfl, Nat.le_of_ble_eq_true rfl⟩) ?_
  show mj_W _ _ _ _ _ 0 [.ref s, .int slope, .null] [] _
  refine mj_aload_n (i := 0) (q := 1) dX3_risk_0 rfl rfl rfl ?_
  refine mj_iload_n (i := 1) (q := 2) dX3_risk_1 rfl rfl rfl ?_
  refine mj_cV1i (K := m_X3_shear) (q := 5) dX3_risk_2 ln_X3_62 ok_X3_shear (Nat.le_of_ble_eq_true rfl) (by decide) (by first | assumption | exact (mj_upn (by omega)).trans (by assumption) | exact (mj_upn (by omega)).trans ((mj_upn (by omega)).trans (by assumption)) | exact (mj_upn (by omega)).trans ((mj_upn (by omega)).trans ((mj_upn (by omega)).trans (by assumption)))) rfl rfl (s_shear hL2 hS) (fun r_2 h1 hq => ?_)
  obtain ⟨rfl, rfl⟩ := hq
  have hr := vShear_rng slope x
  refine mj_istore_n (i := 2) (q := 6) dX3_risk_5 rfl rfl (by decide) rfl ?_
  dsimp only [List.set]
  refine mj_iload_n (i := 2) (q := 7) dX3_risk_6 rfl rfl rfl ?_
  refine mj_num1 (v := (-1)) (q := 8) rfl dX3_risk_7 rfl ?_
  refine mj_icmp_ne (tgt := 15) (q := 11) dX3_risk_8 (by decide) rfl (fun c_8 => ?_) (fun c_8 => ?_)
  · obtain ⟨k, hk, e⟩ := hr.resolve_left c_8
    have e1 : (vShear slope x).toNatClampNeg = k := by rw [e, nI_clamp (by omega)]
    have e2 : vRisk slope x = vMin (vStress k (vDepth (k + 1) x) slope x) 999 := by unfold vRisk; rw [if_neg c_8, e1]
    rw [e]
    refine mj_aload_n (i := 0) (q := 16) dX3_risk_15 rfl rfl rfl ?_
    refine mj_iload_n (i := 2) (q := 17) dX3_risk_16 rfl rfl rfl ?_
    refine mj_aload_n (i := 0) (q := 18) dX3_risk_17 rfl rfl rfl ?_
    refine mj_iload_n (i := 2) (q := 19) dX3_risk_18 rfl rfl rfl ?_
    refine mj_num1 (v := 1) (q := 20) rfl dX3_risk_19 rfl ?_
    refine mj_iadd (q := 21) dX3_risk_20 rfl ?_
    refine mj_top (nI_1 k) ?_
    refine mj_cV1i (K := m_X3_depthFrom) (q := 24) dX3_risk_21 ln_X3_38 ok_X3_depthFrom (Nat.le_of_ble_eq_true rfl) (by decide) (by first | assumption | exact (mj_upn (by omega)).trans (by assumption) | exact (mj_upn (by omega)).trans ((mj_upn (by omega)).trans (by assumption)) | exact (mj_upn (by omega)).trans ((mj_upn (by omega)).trans ((mj_upn (by omega)).trans (by assumption)))) rfl rfl (s_depthFrom hL2 hS (lo := k + 1) (by omega)) (fun r_21 h1 hq => ?_)
    obtain ⟨rfl, rfl⟩ := hq
    refine mj_iload_n (i := 1) (q := 25) dX3_risk_24 rfl rfl rfl ?_
    refine mj_cV3i (K := m_X3_stress) (q := 28) dX3_risk_25 ln_X3_58 ok_X3_stress (Nat.le_of_ble_eq_true rfl) (by decide) (by first | assumption | exact (mj_upn (by omega)).trans (by assumption) | exact (mj_upn (by omega)).trans ((mj_upn (by omega)).trans (by assumption)) | exact (mj_upn (by omega)).trans ((mj_upn (by omega)).trans ((mj_upn (by omega)).trans (by assumption)))) rfl rfl (s_stress hL2 hS (l := k) (by omega)) (fun r_25 h1 hq => ?_)
    obtain ⟨rfl, rfl⟩ := hq
    refine mj_num3 (v := 999) (q := 31) (by decide) dX3_risk_28 rfl ?_
    refine mj_mmin (q := 34) dX3_risk_31 ln_X3_48 (Nat.le_of_ble_eq_true rfl) rfl ?_
    first | exact mj_ireturn dX3_risk_34 ⟨_, rfl, rfl⟩ ⟨_, rfl, ⟨rfl, by unfold vRisk; rw [if_pos c_8]⟩⟩ | exact mj_ireturn dX3_risk_34 ⟨_, rfl, rfl⟩ ⟨_, rfl, ⟨rfl, by rw [e2]; rfl⟩⟩
  · refine mj_num1 (v := 0) (q := 12) rfl dX3_risk_11 rfl ?_
    refine mj_goto (q := 34) dX3_risk_12 (by decide) ?_
    first | exact mj_ireturn dX3_risk_34 ⟨_, rfl, rfl⟩ ⟨_, rfl, ⟨rfl, by unfold vRisk; rw [if_pos c_8]⟩⟩ | exact mj_ireturn dX3_risk_34 ⟨_, rfl, rfl⟩ ⟨_, rfl, ⟨rfl, by rw [e2]; rfl⟩⟩
set_option maxHeartbeats 4000000 in
set_option maxRecDepth 100000 in
theorem s_dropFrom {d s : Nat} {lo : Int32} {n : Nat} {K : Nat → mj_K} {f : Nat → Nat → Int32} {g : Nat → Nat → Option Nat} {x : sV} (hL : LSn K g s) (hS : SN f s x) (hlo : lo = -1 ∨ ∃ k, k < x.1 ∧ lo = nI k) : mj_Cv m_X3_dropFrom d [.ref s, .int lo] (n, K, f, g) (fun h1 => ∃ f1, h1 = (n, K, f1, g) ∧ SN f1 s (vDrop lo x) ∧ mj_Fr s (s + 4) f f1) := by
  obtain ⟨k0, k1, k2, k3, g0, g1, g2⟩ := hL
  obtain ⟨c, w, sn, D, H, T⟩ := x
  obtain ⟨b0, b1, b2, b3, b4, b5, b6, b7, b8⟩ := hS
  dsimp only at b0 b1 b2 b3 b4 b5 b6 b7 b8
  rcases hlo with rfl | ⟨k, hk, rfl⟩
  · refine mj_entry (by refine ⟨by decide +kernel, by decide, rfl, Nat.le_of_ble_eq_true rfl⟩) ?_
    show mj_W _ _ _ _ _ 0 [.ref s, .int (-1)] [] _
    refine mj_iload_n (i := 1) (q := 1) dX3_dropFrom_0 rfl rfl rfl ?_
    refine mj_if_lt (tgt := 22) (q := 4) dX3_dropFrom_1 (by decide) rfl (fun c_1 => ?_) (fun c_1 => absurd (by decide) c_1)
    exact mj_return dX3_dropFrom_22 rfl ⟨rfl, ⟨_, rfl, by refine ⟨by first | omega | (simp only [vDrop]; omega) | (simp [vDrop, b0, b1, b2, b3, b4, b5, b6, b7, b8] <;> omega), ?_, ?_, ?_, ?_, ?_, ?_, ?_, ?_⟩ <;> first | (intro k hk; simp [mj_up, upd, vDrop, b0, b1, b2, b3, b4, b5, b6, b7, b8, hk]; done) | (simp [mj_up, upd, vDrop, b0, b1, b2, b3, b4, b5, b6, b7, b8]; done), by repeat (first | exact mj_Fr.rf | exact (by assumption) | refine mj_Fr.up ?_ (by omega) (by omega))⟩⟩
  · have hk : k < c := hk
    have hne : ¬ nI k = -1 := fun z => by have := congrArg Int32.toInt z; rw [nI_toInt (by omega)] at this; have h2 : (-1 : Int32).toInt = -1 := by decide
                                          omega
    have hkc : (nI k).toNatClampNeg = k := nI_clamp (by omega)
    refine mj_entry (by refine ⟨by decide +kernel, by decide, rfl, Nat.le_of_ble_eq_true rfl⟩) ?_
    show mj_W _ _ _ _ _ 0 [.ref s, .int (nI k)] [] _
    refine mj_iload_n (i := 1) (q := 1) dX3_dropFrom_0 rfl rfl rfl ?_
    refine mj_if_lt (tgt := 22) (q := 4) dX3_dropFrom_1 (by decide) rfl (fun c_1 => absurd c_1 (nI_pos (by omega))) (fun c_1 => ?_)
    refine mj_iload_n (i := 1) (q := 5) dX3_dropFrom_4 rfl rfl rfl ?_
    refine mj_aload_n (i := 0) (q := 6) dX3_dropFrom_5 rfl rfl rfl ?_
    refine mj_getfv (q := 9) dX3_dropFrom_6 fl_X3_27 rfl rfl (by first | assumption | exact (mj_upn (by omega)).trans (by assumption) | exact (mj_upn (by omega)).trans ((mj_upn (by omega)).trans (by assumption)) | exact (mj_upn (by omega)).trans ((mj_upn (by omega)).trans ((mj_upn (by omega)).trans (by assumption)))) (by first | assumption | exact (mj_upn (by omega)).trans (by assumption) | exact (mj_upn (by omega)).trans ((mj_upn (by omega)).trans (by assumption)) | exact (mj_upn (by omega)).trans ((mj_upn (by omega)).trans ((mj_upn (by omega)).trans (by assumption)))) ?_
    refine mj_icmp_ge (tgt := 22) (q := 12) dX3_dropFrom_9 (by decide) rfl (fun c_9 => absurd c_9 (nI_ge hk (by omega))) (fun c_9 => ?_)
    refine mj_aload_n (i := 0) (q := 13) dX3_dropFrom_12 rfl rfl rfl ?_
    refine mj_iload_n (i := 1) (q := 14) dX3_dropFrom_13 rfl rfl rfl ?_
    refine mj_putf (q := 17) dX3_dropFrom_14 fl_X3_27 rfl rfl (by first | assumption | exact (mj_upn (by omega)).trans (by assumption) | exact (mj_upn (by omega)).trans ((mj_upn (by omega)).trans (by assumption)) | exact (mj_upn (by omega)).trans ((mj_upn (by omega)).trans ((mj_upn (by omega)).trans (by assumption)))) rfl rfl rfl ?_
    refine mj_aload_n (i := 0) (q := 18) dX3_dropFrom_17 rfl rfl rfl ?_
    refine mj_num1 (v := 0) (q := 19) rfl dX3_dropFrom_18 rfl ?_
    refine mj_putf (q := 22) dX3_dropFrom_19 fl_X3_31 rfl rfl (by first | assumption | exact (mj_upn (by omega)).trans (by assumption) | exact (mj_upn (by omega)).trans ((mj_upn (by omega)).trans (by assumption)) | exact (mj_upn (by omega)).trans ((mj_upn (by omega)).trans ((mj_upn (by omega)).trans (by assumption)))) rfl rfl rfl ?_
    exact mj_return dX3_dropFrom_22 rfl ⟨rfl, ⟨_, rfl, by refine ⟨by first | omega | (simp only [vDrop]; omega) | (simp [vDrop, b0, b1, b2, b3, b4, b5, b6, b7, b8, hne, hkc] <;> omega), ?_, ?_, ?_, ?_, ?_, ?_, ?_, ?_⟩ <;> first | (intro k hk; simp [mj_up, upd, vDrop, b0, b1, b2, b3, b4, b5, b6, b7, b8, hne, hkc, hk]; done) | (simp [mj_up, upd, vDrop, b0, b1, b2, b3, b4, b5, b6, b7, b8, hne, hkc]; done), by repeat (first | exact mj_Fr.rf | exact (by assumption) | refine mj_Fr.up ?_ (by omega) (by omega))⟩⟩
set_option maxHeartbeats 4000000 in
set_option maxRecDepth 100000 in
theorem s_settle {d s : Nat} {noon : Int32} {n : Nat} {K : Nat → mj_K} {f : Nat → Nat → Int32} {g : Nat → Nat → Option Nat} {x : sV} (hL : LSn K g s) (hS : SN f s x) : mj_Cv m_X3_settle (d + 1) [.ref s, .int noon] (n, K, f, g) (fun h1 => ∃ f1, h1 = (n, K, f1, g) ∧ SN f1 s (vSettle noon x) ∧ mj_Fr s (s + 4) f f1) := by
  obtain ⟨k0, k1, k2, k3, g0, g1, g2⟩ := hL
  obtain ⟨c, w, sn, D, H, T⟩ := x
  obtain ⟨b0, b1, b2, b3, b4, b5, b6, b7, b8⟩ := hS
  dsimp only at b0 b1 b2 b3 b4 b5 b6 b7 b8
  have key : ∀ (j l : Nat) (f1 : Nat → Nat → Int32) (v3 : Value), l + j = c → f1 s = f s → f1 (s + 1) = f (s + 1) → f1 (s + 3) = f (s + 3) → mj_Fr s (s + 4) f f1 → (∀ k, k < 8 → f1 (s + 2) k = if k < l ∧ (T k = 0 ∨ T k = 3 ∨ T k = 1 ∧ ¬ noon = 0) then vMin (H k + 1) 100 else H k) → mj_W m_X3_settle (d + 1) 0 0 (fun v h1 => v = none ∧ ∃ f2, h1 = (n, K, f2, g) ∧ SN f2 s (vSettle noon (c, w, sn, D, H, T)) ∧ mj_Fr s (s + 4) f f2) 2 [.ref s, .int noon, .int (nI l), v3] [] (n, K, f1, g) := by
    intro j
    induction j with
    | zero =>
      intro l f1 v3 hl e0 e1 e3 hF e5
      have hlc : l = c := by omega
      subst hlc
      have b1 : f1 s 3 = nI l := by rw [e0]; exact b1
      refine mj_iload_n (i := 2) (q := 3) dX3_settle_2 rfl rfl rfl ?_
      refine mj_aload_n (i := 0) (q := 4) dX3_settle_3 rfl rfl rfl ?_
      refine mj_getfv (q := 7) dX3_settle_4 fl_X3_27 rfl rfl (by first | assumption | exact (mj_upn (by omega)).trans (by assumption) | exact (mj_upn (by omega)).trans ((mj_upn (by omega)).trans (by assumption)) | exact (mj_upn (by omega)).trans ((mj_upn (by omega)).trans ((mj_upn (by omega)).trans (by assumption)))) (by first | assumption | exact (mj_upn (by omega)).trans (by assumption) | exact (mj_upn (by omega)).trans ((mj_upn (by omega)).trans (by assumption)) | exact (mj_upn (by omega)).trans ((mj_upn (by omega)).trans ((mj_upn (by omega)).trans (by assumption)))) ?_
      refine mj_icmp_ge (tgt := 78) (q := 10) dX3_settle_7 (by decide) rfl (fun c_7 => ?_) (fun c_7 => absurd (Int32.le_refl _) c_7)
      exact mj_return dX3_settle_78 rfl ⟨rfl, ⟨_, rfl, by refine ⟨b0, b1, by rw [e0]; exact b2, by rw [e0]; exact b3, fun k hk => by rw [e1]; exact b4 k hk, fun k hk => e5 k hk, fun k hk => by rw [e3]; exact b6 k hk, b7, b8⟩, hF⟩⟩
    | succ j ih =>
      intro l f1 v3 hl e0 e1 e3 hF e5
      have b1 : f1 s 3 = nI c := by rw [e0]; exact b1
      have bT : f1 (s + 3) l = T l := by rw [e3]; exact b6 l (by omega)
      have bH : f1 (s + 2) l = H l := by rw [e5 l (by omega), if_neg (fun z => absurd z.1 (Nat.lt_irrefl l))]
      have skip : ∀ (v3 : Value), ¬ (T l = 0 ∨ T l = 3 ∨ T l = 1 ∧ ¬ noon = 0) → mj_W m_X3_settle (d + 1) 0 0 (fun v h1 => v = none ∧ ∃ f2, h1 = (n, K, f2, g) ∧ SN f2 s (vSettle noon (c, w, sn, D, H, T)) ∧ mj_Fr s (s + 4) f f2) 72 [.ref s, .int noon, .int (nI l), v3] [] (n, K, f1, g) := by
        intro v3 hs
        refine mj_iinc (i := 2) (q := 75) dX3_settle_72 rfl rfl (by decide) rfl ?_
        dsimp only [List.set]
        refine mj_goto (q := 2) dX3_settle_75 (by decide) ?_
        rw [show nI l + Int32.ofInt 1 = nI (l + 1) from nI_1 l]
        refine ih (l + 1) _ _ (by omega) e0 e1 e3 hF ?_
        intro k hk
        rw [e5 k hk]
        by_cases hkl : k = l
        · subst hkl
          rw [if_neg (fun z => absurd z.1 (Nat.lt_irrefl k)), if_neg (fun z => hs z.2)]
        · have : k < l + 1 ↔ k < l := by omega
          simp only [this]
      have sets : ∀ (v3 : Value), (T l = 0 ∨ T l = 3 ∨ T l = 1 ∧ ¬ noon = 0) → mj_W m_X3_settle (d + 1) 0 0 (fun v h1 => v = none ∧ ∃ f2, h1 = (n, K, f2, g) ∧ SN f2 s (vSettle noon (c, w, sn, D, H, T)) ∧ mj_Fr s (s + 4) f f2) 53 [.ref s, .int noon, .int (nI l), v3] [] (n, K, f1, g) := by
        intro v3 hs
        refine mj_aload_n (i := 0) (q := 54) dX3_settle_53 rfl rfl rfl ?_
        refine mj_getr (q := 57) dX3_settle_54 fl_X3_15 rfl rfl (by first | assumption | exact (mj_upn (by omega)).trans (by assumption) | exact (mj_upn (by omega)).trans ((mj_upn (by omega)).trans (by assumption)) | exact (mj_upn (by omega)).trans ((mj_upn (by omega)).trans ((mj_upn (by omega)).trans (by assumption)))) (by first | assumption | exact (mj_upn (by omega)).trans (by assumption) | exact (mj_upn (by omega)).trans ((mj_upn (by omega)).trans (by assumption)) | exact (mj_upn (by omega)).trans ((mj_upn (by omega)).trans ((mj_upn (by omega)).trans (by assumption)))) ?_
        refine mj_iload_n (i := 2) (q := 58) dX3_settle_57 rfl rfl rfl ?_
        refine mj_aload_n (i := 0) (q := 59) dX3_settle_58 rfl rfl rfl ?_
        refine mj_getr (q := 62) dX3_settle_59 fl_X3_15 rfl rfl (by first | assumption | exact (mj_upn (by omega)).trans (by assumption) | exact (mj_upn (by omega)).trans ((mj_upn (by omega)).trans (by assumption)) | exact (mj_upn (by omega)).trans ((mj_upn (by omega)).trans ((mj_upn (by omega)).trans (by assumption)))) (by first | assumption | exact (mj_upn (by omega)).trans (by assumption) | exact (mj_upn (by omega)).trans ((mj_upn (by omega)).trans (by assumption)) | exact (mj_upn (by omega)).trans ((mj_upn (by omega)).trans ((mj_upn (by omega)).trans (by assumption)))) ?_
        refine mj_iload_n (i := 2) (q := 63) dX3_settle_62 rfl rfl rfl ?_
        refine mj_ialdn (q := 64) dX3_settle_63 rfl (by first | assumption | exact (mj_upn (by omega)).trans (by assumption) | exact (mj_upn (by omega)).trans ((mj_upn (by omega)).trans (by assumption)) | exact (mj_upn (by omega)).trans ((mj_upn (by omega)).trans ((mj_upn (by omega)).trans (by assumption)))) (by omega) ?_
        refine mj_top bH ?_
        refine mj_num1 (v := 1) (q := 65) rfl dX3_settle_64 rfl ?_
        refine mj_iadd (q := 66) dX3_settle_65 rfl ?_
        refine mj_num2 (v := 100) (q := 68) (by decide) dX3_settle_66 rfl ?_
        refine mj_mmin (q := 71) dX3_settle_68 ln_X3_48 (Nat.le_of_ble_eq_true rfl) rfl ?_
        refine mj_iastn (q := 72) dX3_settle_71 rfl (by first | assumption | exact (mj_upn (by omega)).trans (by assumption) | exact (mj_upn (by omega)).trans ((mj_upn (by omega)).trans (by assumption)) | exact (mj_upn (by omega)).trans ((mj_upn (by omega)).trans ((mj_upn (by omega)).trans (by assumption)))) (by omega) ?_
        refine mj_iinc (i := 2) (q := 75) dX3_settle_72 rfl rfl (by decide) rfl ?_
        dsimp only [List.set]
        refine mj_goto (q := 2) dX3_settle_75 (by decide) ?_
        rw [show nI l + Int32.ofInt 1 = nI (l + 1) from nI_1 l]
        refine ih (l + 1) _ _ (by omega) (by rw [mj_upr (by omega)]; exact e0) (by rw [mj_upr (by omega)]; exact e1) (by rw [mj_upr (by omega)]; exact e3) (mj_Fr.up hF (by omega) (by omega)) ?_
        intro k hk
        by_cases hkl : k = l
        · subst hkl
          rw [if_pos (show k < k + 1 ∧ (T k = 0 ∨ T k = 3 ∨ T k = 1 ∧ ¬ noon = 0) from ⟨by omega, hs⟩)]
          simp [mj_up, vMin]
        · have : k < l + 1 ↔ k < l := by omega
          simp only [this]
          rw [← e5 k hk]
          simp [mj_up, hkl]
      refine mj_iload_n (i := 2) (q := 3) dX3_settle_2 rfl rfl rfl ?_
      refine mj_aload_n (i := 0) (q := 4) dX3_settle_3 rfl rfl rfl ?_
      refine mj_getfv (q := 7) dX3_settle_4 fl_X3_27 rfl rfl (by first | assumption | exact (mj_upn (by omega)).trans (by assumption) | exact (mj_upn (by omega)).trans ((mj_upn (by omega)).trans (by assumption)) | exact (mj_upn (by omega)).trans ((mj_upn (by omega)).trans ((mj_upn (by omega)).trans (by assumption)))) (by first | assumption | exact (mj_upn (by omega)).trans (by assumption) | exact (mj_upn (by omega)).trans ((mj_upn (by omega)).trans (by assumption)) | exact (mj_upn (by omega)).trans ((mj_upn (by omega)).trans ((mj_upn (by omega)).trans (by assumption)))) ?_
      refine mj_icmp_ge (tgt := 78) (q := 10) dX3_settle_7 (by decide) rfl (fun c_7 => absurd c_7 (nI_ge (a := l) (b := c) (by omega) (by omega))) (fun c_7 => ?_)
      refine mj_aload_n (i := 0) (q := 11) dX3_settle_10 rfl rfl rfl ?_
      refine mj_getr (q := 14) dX3_settle_11 fl_X3_18 rfl rfl (by first | assumption | exact (mj_upn (by omega)).trans (by assumption) | exact (mj_upn (by omega)).trans ((mj_upn (by omega)).trans (by assumption)) | exact (mj_upn (by omega)).trans ((mj_upn (by omega)).trans ((mj_upn (by omega)).trans (by assumption)))) (by first | assumption | exact (mj_upn (by omega)).trans (by assumption) | exact (mj_upn (by omega)).trans ((mj_upn (by omega)).trans (by assumption)) | exact (mj_upn (by omega)).trans ((mj_upn (by omega)).trans ((mj_upn (by omega)).trans (by assumption)))) ?_
      refine mj_iload_n (i := 2) (q := 15) dX3_settle_14 rfl rfl rfl ?_
      refine mj_ialdn (q := 16) dX3_settle_15 rfl (by first | assumption | exact (mj_upn (by omega)).trans (by assumption) | exact (mj_upn (by omega)).trans ((mj_upn (by omega)).trans (by assumption)) | exact (mj_upn (by omega)).trans ((mj_upn (by omega)).trans ((mj_upn (by omega)).trans (by assumption)))) (by omega) ?_
      refine mj_top bT ?_
      refine mj_if_eq (tgt := 43) (q := 19) dX3_settle_16 (by decide) rfl (fun c_16 => ?_) (fun c_16 => ?_)
      · refine mj_num1 (v := 1) (q := 44) rfl dX3_settle_43 rfl ?_
        refine mj_goto (q := 48) dX3_settle_44 (by decide) ?_
        refine mj_istore_n (i := 3) (q := 49) dX3_settle_48 rfl rfl (by decide) rfl ?_
        dsimp only [List.set]
        refine mj_iload_n (i := 3) (q := 50) dX3_settle_49 rfl rfl rfl ?_
        refine mj_if_eq (tgt := 72) (q := 53) dX3_settle_50 (by decide) rfl (fun c_50 => absurd c_50 (by decide)) (fun c_50 => ?_)
        refine sets _ ?_
        first | exact Or.inl c_16 | exact Or.inr (Or.inl c_26) | exact Or.inr (Or.inr ⟨c_36, c_40⟩)
      · refine mj_aload_n (i := 0) (q := 20) dX3_settle_19 rfl rfl rfl ?_
        refine mj_getr (q := 23) dX3_settle_20 fl_X3_18 rfl rfl (by first | assumption | exact (mj_upn (by omega)).trans (by assumption) | exact (mj_upn (by omega)).trans ((mj_upn (by omega)).trans (by assumption)) | exact (mj_upn (by omega)).trans ((mj_upn (by omega)).trans ((mj_upn (by omega)).trans (by assumption)))) (by first | assumption | exact (mj_upn (by omega)).trans (by assumption) | exact (mj_upn (by omega)).trans ((mj_upn (by omega)).trans (by assumption)) | exact (mj_upn (by omega)).trans ((mj_upn (by omega)).trans ((mj_upn (by omega)).trans (by assumption)))) ?_
        refine mj_iload_n (i := 2) (q := 24) dX3_settle_23 rfl rfl rfl ?_
        refine mj_ialdn (q := 25) dX3_settle_24 rfl (by first | assumption | exact (mj_upn (by omega)).trans (by assumption) | exact (mj_upn (by omega)).trans ((mj_upn (by omega)).trans (by assumption)) | exact (mj_upn (by omega)).trans ((mj_upn (by omega)).trans ((mj_upn (by omega)).trans (by assumption)))) (by omega) ?_
        refine mj_top bT ?_
        refine mj_num1 (v := 3) (q := 26) rfl dX3_settle_25 rfl ?_
        refine mj_icmp_eq (tgt := 43) (q := 29) dX3_settle_26 (by decide) rfl (fun c_26 => ?_) (fun c_26 => ?_)
        · refine mj_num1 (v := 1) (q := 44) rfl dX3_settle_43 rfl ?_
          refine mj_goto (q := 48) dX3_settle_44 (by decide) ?_
          refine mj_istore_n (i := 3) (q := 49) dX3_settle_48 rfl rfl (by decide) rfl ?_
          dsimp only [List.set]
          refine mj_iload_n (i := 3) (q := 50) dX3_settle_49 rfl rfl rfl ?_
          refine mj_if_eq (tgt := 72) (q := 53) dX3_settle_50 (by decide) rfl (fun c_50 => absurd c_50 (by decide)) (fun c_50 => ?_)
          refine sets _ ?_
          first | exact Or.inl c_16 | exact Or.inr (Or.inl c_26) | exact Or.inr (Or.inr ⟨c_36, c_40⟩)
        · refine mj_aload_n (i := 0) (q := 30) dX3_settle_29 rfl rfl rfl ?_
          refine mj_getr (q := 33) dX3_settle_30 fl_X3_18 rfl rfl (by first | assumption | exact (mj_upn (by omega)).trans (by assumption) | exact (mj_upn (by omega)).trans ((mj_upn (by omega)).trans (by assumption)) | exact (mj_upn (by omega)).trans ((mj_upn (by omega)).trans ((mj_upn (by omega)).trans (by assumption)))) (by first | assumption | exact (mj_upn (by omega)).trans (by assumption) | exact (mj_upn (by omega)).trans ((mj_upn (by omega)).trans (by assumption)) | exact (mj_upn (by omega)).trans ((mj_upn (by omega)).trans ((mj_upn (by omega)).trans (by assumption)))) ?_
          refine mj_iload_n (i := 2) (q := 34) dX3_settle_33 rfl rfl rfl ?_
          refine mj_ialdn (q := 35) dX3_settle_34 rfl (by first | assumption | exact (mj_upn (by omega)).trans (by assumption) | exact (mj_upn (by omega)).trans ((mj_upn (by omega)).trans (by assumption)) | exact (mj_upn (by omega)).trans ((mj_upn (by omega)).trans ((mj_upn (by omega)).trans (by assumption)))) (by omega) ?_
          refine mj_top bT ?_
          refine mj_num1 (v := 1) (q := 36) rfl dX3_settle_35 rfl ?_
          refine mj_icmp_ne (tgt := 47) (q := 39) dX3_settle_36 (by decide) rfl (fun c_36 => ?_) (fun c_36 => ?_)
          · refine mj_num1 (v := 0) (q := 48) rfl dX3_settle_47 rfl ?_
            refine mj_istore_n (i := 3) (q := 49) dX3_settle_48 rfl rfl (by decide) rfl ?_
            dsimp only [List.set]
            refine mj_iload_n (i := 3) (q := 50) dX3_settle_49 rfl rfl rfl ?_
            refine mj_if_eq (tgt := 72) (q := 53) dX3_settle_50 (by decide) rfl (fun c_50 => ?_) (fun c_50 => absurd rfl c_50)
            refine skip _ ?_
            first | exact (fun z => z.elim c_16 (fun z => z.elim c_26 (fun z => z.2 c_40))) | exact (fun z => z.elim c_16 (fun z => z.elim c_26 (fun z => c_36 z.1)))
          · refine mj_iload_n (i := 1) (q := 40) dX3_settle_39 rfl rfl rfl ?_
            refine mj_if_eq (tgt := 47) (q := 43) dX3_settle_40 (by decide) rfl (fun c_40 => ?_) (fun c_40 => ?_)
            · refine mj_num1 (v := 0) (q := 48) rfl dX3_settle_47 rfl ?_
              refine mj_istore_n (i := 3) (q := 49) dX3_settle_48 rfl rfl (by decide) rfl ?_
              dsimp only [List.set]
              refine mj_iload_n (i := 3) (q := 50) dX3_settle_49 rfl rfl rfl ?_
              refine mj_if_eq (tgt := 72) (q := 53) dX3_settle_50 (by decide) rfl (fun c_50 => ?_) (fun c_50 => absurd rfl c_50)
              refine skip _ ?_
              first | exact (fun z => z.elim c_16 (fun z => z.elim c_26 (fun z => z.2 c_40))) | exact (fun z => z.elim c_16 (fun z => z.elim c_26 (fun z => c_36 z.1)))
            · refine mj_num1 (v := 1) (q := 44) rfl dX3_settle_43 rfl ?_
              refine mj_goto (q := 48) dX3_settle_44 (by decide) ?_
              refine mj_istore_n (i := 3) (q := 49) dX3_settle_48 rfl rfl (by decide) rfl ?_
              dsimp only [List.set]
              refine mj_iload_n (i := 3) (q := 50) dX3_settle_49 rfl rfl rfl ?_
              refine mj_if_eq (tgt := 72) (q := 53) dX3_settle_50 (by decide) rfl (fun c_50 => absurd c_50 (by decide)) (fun c_50 => ?_)
              refine sets _ ?_
              first | exact Or.inl c_16 | exact Or.inr (Or.inl c_26) | exact Or.inr (Or.inr ⟨c_36, c_40⟩)
  refine mj_entry (by refine ⟨by decide +kernel, by decide, rfl, Nat.le_of_ble_eq_true rfl⟩) ?_
  show mj_W _ _ _ _ _ 0 [.ref s, .int noon, .null, .null] [] _
  refine mj_num1 (v := nI 0) (q := 1) (by decide) dX3_settle_0 rfl ?_
  refine mj_istore_n (i := 2) (q := 2) dX3_settle_1 rfl rfl (by decide) rfl ?_
  dsimp only [List.set]
  exact key c 0 f _ (by omega) rfl rfl rfl mj_Fr.rf (fun k hk => by rw [if_neg (fun z => absurd z.1 (Nat.not_lt_zero k))]; exact b5 k hk)
