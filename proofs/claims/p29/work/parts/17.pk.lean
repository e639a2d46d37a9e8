/-! PISTEKEEPER: what is asked -/
def LPn (K : Nat → mj_K) (g : Nat → Nat → Option Nat) (x m : Nat) : Prop := K x = (2, 5, 0) ∧ x < m ∧ g x 0 = some m ∧ g x 1 = some (m + 47) ∧ g x 2 = some (m + 94) ∧ g x 3 = some (m + 141) ∧ LMn K g m ∧ LMn K g (m + 47) ∧ LMn K g (m + 94) ∧ K (m + 141) = (2, 4, 0)
section MJ7
variable {M : mj_M} {d mc ms : Nat} {Q : mj_Q} {pc q : Nat} {lv st : List Value} {h : mj_H}
theorem mj_look {dflt : Int} {ps : Array (Int × Int)} {len : Nat} {x : Int32} {off : Int} (hd : decode M.2.1 pc = .ok (.lookupswitch dflt ps, len)) (hp : (ps.toList.zip (ps.toList.drop 1)).all (fun (a, next) => a.1 < next.1) = true) (ho : Op.lookupswitch.offset ps.toList dflt x.toInt = off) (ht : (pc : Int) + off = (q : Int)) (k : mj_W M d mc ms Q q lv st h) : mj_W M d mc ms Q pc lv (.int x :: st) h := mj_pure (fun _ _ _ _ _ _ _ _ _ _ _ _ _ _ _ _ _ hx hb => lv_lookup hx hb hd hp ho ht) (fun _ h => h.2) k
end MJ7
def vOfRun (y : mV) (i : Nat) : Nat → Int32
  | 0 => (y.2.2.2.2 i).2 1
  | 1 => nI (y.2.2.2.2 i).1.1
  | 2 => vDepth 0 (y.2.2.2.2 i).1
  | 3 => v01 (y.2.2.2.2 i).1.2.1
  | 4 => vRisk ((y.2.2.2.2 i).2 3) (y.2.2.2.2 i).1
  | 5 => vShear ((y.2.2.2.2 i).2 3) (y.2.2.2.2 i).1
  | 6 => v01 ((y.2.2.2.2 i).2 15)
  | 7 => (y.2.2.2.2 i).2 10
  | 8 => vBarNow y.2.2.1 y.2.2.2.1 (y.2.2.2.2 i)
  | 9 => if vTested y.2.2.1 (y.2.2.2.2 i) = true then (y.2.2.2.2 i).2 11 else -1
  | 10 => (y.2.2.2.2 i).2 7
  | 11 => (y.2.2.2.2 i).2 8
  | 12 => (y.2.2.2.2 i).2 9
  | _ => v01 ((y.2.2.2.2 i).2 17)
def vOfLayer (y : mV) (i l : Nat) : Nat → Int32
  | 0 => (y.2.2.2.2 i).1.2.2.2.1 l
  | 1 => (y.2.2.2.2 i).1.2.2.2.2.1 l
  | _ => (y.2.2.2.2 i).1.2.2.2.2.2 l
def vOfLift (y : mV) (i : Nat) : Nat → Int32
  | 0 => y.2.2.2.1 i 0
  | 1 => y.2.2.2.1 i 1
  | 2 => v01 (y.2.2.2.1 i 2)
  | 3 => v01 (y.2.2.2.1 i 3)
  | 4 => y.2.2.2.1 i 4
  | _ => vOpenOf y.2.2.2.2 (nI i) y.2.1
def vMany (y : mV) : Nat → Int32
  | 0 => y.2.2.1 4
  | 1 => nI y.1
  | 2 => nI y.2.1
  | 3 => vOpen y.2.2.2.2 y.2.1
  | 4 => y.2.2.1 6
  | 5 => y.2.2.1 7
  | 6 => y.2.2.1 8
  | 7 => y.2.2.1 9
  | 8 => y.2.2.1 10
  | 9 => y.2.2.1 11
  | 10 => y.2.2.1 12
  | 11 => y.2.2.1 13
  | 12 => y.2.2.1 14
  | 13 => y.2.2.1 15
  | _ => vDepthArea y.2.2.2.2 y.2.1
def vNextN (rs : Nat → rV) : Nat → Int32 × Int32
  | 0 => (-1, 0)
  | n + 1 => if (rs n).2 15 = 0 ∧ (rs n).2 10 = 0 ∧ 40 ≤ vRisk ((rs n).2 3) (rs n).1 ∧ (vNextN rs n).2 < vSlideSize (rs n) then (nI n, vSlideSize (rs n)) else vNextN rs n
def vNext (y : mV) : Int32 := (vNextN y.2.2.2.2 y.2.1).1
def vCould (mu : Nat → Int32) (ls : Nat → Nat → Int32) (n : Nat) (x : rV) : Bool := x.2 15 == 0 && (vBarNow mu ls x == 0 || vBar ls x 1 (vTell mu (nI n) x) 1 == 0)
def vCouldN (mu : Nat → Int32) (ls : Nat → Nat → Int32) (rs : Nat → rV) : Nat → Int32
  | 0 => 0
  | n + 1 => if vCould mu ls n (rs n) = true then vCouldN mu ls rs n ||| ((1 : Int32) <<< (nI n &&& 31)) else vCouldN mu ls rs n

set_option maxHeartbeats 4000000 in
set_option maxRecDepth 100000 in
theorem s_within {d : Nat} {v lo hi : Int32} {h : mj_H} (h1 : lo ≤ v) (h2 : v ≤ hi) : mj_Cv m_X5_requireWithin d [.int v, .int lo, .int hi] h (fun q => q = h) := by
  refine mj_entry (by refine ⟨by decide +kernel, by decide, rfl, Nat.le_of_ble_eq_true rfl⟩) ?_
  show mj_W _ _ _ _ _ 0 [.int v, .int lo, .int hi] [] _
  refine mj_iload_n (i := 0) (q := 1) dX5_requireWithin_0 rfl rfl rfl ?_
  refine mj_iload_n (i := 1) (q := 2) dX5_requireWithin_1 rfl rfl rfl ?_
  refine mj_icmp_lt (tgt := 10) (q := 5) dX5_requireWithin_2 (by decide) rfl (fun c_2 => absurd c_2 (Int32.not_lt.mpr h1)) (fun c_2 => ?_)
  refine mj_iload_n (i := 0) (q := 6) dX5_requireWithin_5 rfl rfl rfl ?_
  refine mj_iload_n (i := 2) (q := 7) dX5_requireWithin_6 rfl rfl rfl ?_
  refine mj_icmp_le (tgt := 21) (q := 10) dX5_requireWithin_7 (by decide) rfl (fun c_7 => ?_) (fun c_7 => absurd h2 c_7)
  exact mj_return dX5_requireWithin_21 rfl ⟨rfl, rfl⟩
set_option maxHeartbeats 4000000 in
set_option maxRecDepth 100000 in
theorem s_reqRun {d x m i : Nat} {n : Nat} {K : Nat → mj_K} {f : Nat → Nat → Int32} {g : Nat → Nat → Option Nat} {y : mV} (hP : LPn K g x m) (hN : MN f m y) (hi : i < y.2.1) : mj_Cv m_X5_requireRun d [.ref x, .int (nI i)] (n, K, f, g) (fun h1 => h1 = (n, K, f, g)) := by
  have hP2 := hP
  have hN2 := hN
  obtain ⟨kx, hxm, gx0, gx1, gx2, gx3, hL, hLt, hLb, kw⟩ := hP
  have hL2 := hL
  obtain ⟨km, gm0, gm1, km1, km6, hLl, hLr⟩ := hL
  obtain ⟨lc, rc, mu, ls, rs⟩ := y
  obtain ⟨n1, n2, n3, n4, n5, n6, n7, n8⟩ := hN
  dsimp only at n1 n2 n3 n4 n5 n6 n7 n8
  have hi : i < rc := hi
  refine mj_entry (by refine ⟨by decide +kernel, by decide, rfl, Nat.le_of_ble_eq_true rfl⟩) ?_
  show mj_W _ _ _ _ _ 0 [.ref x, .int (nI i)] [] _
  refine mj_iload_n (i := 1) (q := 1) dX5_requireRun_0 rfl rfl rfl ?_
  refine mj_if_lt (tgt := 15) (q := 4) dX5_requireRun_1 (by decide) rfl (fun c_1 => absurd c_1 (nI_pos (by omega))) (fun c_1 => ?_)
  refine mj_iload_n (i := 1) (q := 5) dX5_requireRun_4 rfl rfl rfl ?_
  refine mj_aload_n (i := 0) (q := 6) dX5_requireRun_5 rfl rfl rfl ?_
  refine mj_getr (q := 9) dX5_requireRun_6 fl_X5_10 rfl rfl (by assumption) (by assumption) ?_
  refine mj_getfv (q := 12) dX5_requireRun_9 fl_X5_60 rfl rfl (by assumption) (by assumption) ?_
  refine mj_icmp_lt (tgt := 26) (q := 15) dX5_requireRun_12 (by decide) rfl (fun c_12 => ?_) (fun c_12 => absurd (nI_lt hi (by omega)) c_12)
  exact mj_return dX5_requireRun_26 rfl ⟨rfl, rfl⟩
set_option maxHeartbeats 4000000 in
set_option maxRecDepth 100000 in
theorem s_reqLift {d x m i : Nat} {n : Nat} {K : Nat → mj_K} {f : Nat → Nat → Int32} {g : Nat → Nat → Option Nat} {y : mV} (hP : LPn K g x m) (hN : MN f m y) (hi : i < y.1) : mj_Cv m_X5_requireLift d [.ref x, .int (nI i)] (n, K, f, g) (fun h1 => h1 = (n, K, f, g)) := by
  have hP2 := hP
  have hN2 := hN
  obtain ⟨kx, hxm, gx0, gx1, gx2, gx3, hL, hLt, hLb, kw⟩ := hP
  have hL2 := hL
  obtain ⟨km, gm0, gm1, km1, km6, hLl, hLr⟩ := hL
  obtain ⟨lc, rc, mu, ls, rs⟩ := y
  obtain ⟨n1, n2, n3, n4, n5, n6, n7, n8⟩ := hN
  dsimp only at n1 n2 n3 n4 n5 n6 n7 n8
  have hi : i < lc := hi
  refine mj_entry (by refine ⟨by decide +kernel, by decide, rfl, Nat.le_of_ble_eq_true rfl⟩) ?_
  show mj_W _ _ _ _ _ 0 [.ref x, .int (nI i)] [] _
  refine mj_iload_n (i := 1) (q := 1) dX5_requireLift_0 rfl rfl rfl ?_
  refine mj_if_lt (tgt := 15) (q := 4) dX5_requireLift_1 (by decide) rfl (fun c_1 => absurd c_1 (nI_pos (by omega))) (fun c_1 => ?_)
  refine mj_iload_n (i := 1) (q := 5) dX5_requireLift_4 rfl rfl rfl ?_
  refine mj_aload_n (i := 0) (q := 6) dX5_requireLift_5 rfl rfl rfl ?_
  refine mj_getr (q := 9) dX5_requireLift_6 fl_X5_10 rfl rfl (by assumption) (by assumption) ?_
  refine mj_getfv (q := 12) dX5_requireLift_9 fl_X5_33 rfl rfl (by assumption) (by assumption) ?_
  refine mj_icmp_lt (tgt := 26) (q := 15) dX5_requireLift_12 (by decide) rfl (fun c_12 => ?_) (fun c_12 => absurd (nI_lt hi (by omega)) c_12)
  exact mj_return dX5_requireLift_26 rfl ⟨rfl, rfl⟩
set_option maxHeartbeats 4000000 in
set_option maxRecDepth 100000 in
theorem s_reqClosed {d x m i : Nat} {n : Nat} {K : Nat → mj_K} {f : Nat → Nat → Int32} {g : Nat → Nat → Option Nat} {y : mV} (hP : LPn K g x m) (hN : MN f m y) (hi : i < y.2.1) (ho : (y.2.2.2.2 i).2 15 = 0) : mj_Cv m_X5_requireClosed (d + 1) [.ref x, .int (nI i)] (n, K, f, g) (fun h1 => h1 = (n, K, f, g)) := by
  have hP2 := hP
  have hN2 := hN
  obtain ⟨kx, hxm, gx0, gx1, gx2, gx3, hL, hLt, hLb, kw⟩ := hP
  have hL2 := hL
  obtain ⟨km, gm0, gm1, km1, km6, hLl, hLr⟩ := hL
  obtain ⟨lc, rc, mu, ls, rs⟩ := y
  obtain ⟨n1, n2, n3, n4, n5, n6, n7, n8⟩ := hN
  dsimp only at n1 n2 n3 n4 n5 n6 n7 n8
  have hi : i < rc := hi
  have ho : (rs i).2 15 = 0 := ho
  have hg_i : g (m + 6) i = some (m + 7 + 5 * i) := (hLr i (by omega)).1
  have hL_i := (hLr i (by omega)).2
  have kr_i : K (m + 7 + 5 * i) = (2, 2, 0) := hL_i.1
  have gr_i : g (m + 7 + 5 * i) 0 = some ((m + 7 + 5 * i) + 1) := hL_i.2.1
  have ks_i : K ((m + 7 + 5 * i) + 1) = (2, 3, 0) := hL_i.2.2.1
  have hR_i := n7 i (by omega)
  have e15_i : f (m + 7 + 5 * i) 15 = (rs i).2 15 := hR_i.2.1 15 (by omega) (by omega)
  rw [ho] at e15_i
  refine mj_entry (by refine ⟨by decide +kernel, by decide, rfl, Nat.le_of_ble_eq_true rfl⟩) ?_
  show mj_W _ _ _ _ _ 0 [.ref x, .int (nI i)] [] _
  refine mj_aload_n (i := 0) (q := 1) dX5_requireClosed_0 rfl rfl rfl ?_
  refine mj_iload_n (i := 1) (q := 2) dX5_requireClosed_1 rfl rfl rfl ?_
  refine mj_cV1v (K := m_X5_requireRun) (q := 5) dX5_requireClosed_2 ln_X5_98 ok_X5_requireRun (Nat.le_of_ble_eq_true rfl) (by decide) (by assumption) rfl rfl (s_reqRun hP2 hN2 hi) (fun h1 hq => ?_)
  obtain rfl := hq
  refine mj_aload_n (i := 0) (q := 6) dX5_requireClosed_5 rfl rfl rfl ?_
  refine mj_getr (q := 9) dX5_requireClosed_6 fl_X5_10 rfl rfl (by assumption) (by assumption) ?_
  refine mj_getr (q := 12) dX5_requireClosed_9 fl_X5_65 rfl rfl (by assumption) (by assumption) ?_
  refine mj_iload_n (i := 1) (q := 13) dX5_requireClosed_12 rfl rfl rfl ?_
  refine mj_aaldn (q := 14) dX5_requireClosed_13 rfl (by assumption) ⟨by omega, by omega⟩ (by assumption) ?_
  refine mj_getfv (q := 17) dX5_requireClosed_14 fl_X5_194 rfl rfl (by assumption) (by assumption) ?_
  refine mj_if_eq (tgt := 31) (q := 20) dX5_requireClosed_17 (by decide) rfl (fun c_17 => ?_) (fun c_17 => absurd rfl c_17)
  exact mj_return dX5_requireClosed_31 rfl ⟨rfl, rfl⟩
set_option maxHeartbeats 4000000 in
set_option maxRecDepth 100000 in
theorem s_ofRun {d x m i w : Nat} {n : Nat} {K : Nat → mj_K} {f : Nat → Nat → Int32} {g : Nat → Nat → Option Nat} {y : mV} (hP : LPn K g x m) (hN : MN f m y) (hi : i < y.2.1) (hw : w < 14) : mj_Ci m_X5_ofRun (d + 5) [.ref x, .int (nI i), .int (nI w)] (n, K, f, g) (fun r h1 => h1 = (n, K, f, g) ∧ r = vOfRun y i w) := by
  have hP2 := hP
  have hN2 := hN
  obtain ⟨kx, hxm, gx0, gx1, gx2, gx3, hL, hLt, hLb, kw⟩ := hP
  have hL2 := hL
  obtain ⟨km, gm0, gm1, km1, km6, hLl, hLr⟩ := hL
  obtain ⟨lc, rc, mu, ls, rs⟩ := y
  obtain ⟨n1, n2, n3, n4, n5, n6, n7, n8⟩ := hN
  dsimp only at n1 n2 n3 n4 n5 n6 n7 n8
  have hi : i < rc := hi
  have hg_i : g (m + 6) i = some (m + 7 + 5 * i) := (hLr i (by omega)).1
  have hL_i := (hLr i (by omega)).2
  have kr_i : K (m + 7 + 5 * i) = (2, 2, 0) := hL_i.1
  have gr_i : g (m + 7 + 5 * i) 0 = some ((m + 7 + 5 * i) + 1) := hL_i.2.1
  have ks_i : K ((m + 7 + 5 * i) + 1) = (2, 3, 0) := hL_i.2.2.1
  have hR_i := n7 i (by omega)
  have e1_i : f (m + 7 + 5 * i) 1 = (rs i).2 1 := hR_i.2.1 1 (by omega) (by omega)
  have e7_i : f (m + 7 + 5 * i) 7 = (rs i).2 7 := hR_i.2.1 7 (by omega) (by omega)
  have e8_i : f (m + 7 + 5 * i) 8 = (rs i).2 8 := hR_i.2.1 8 (by omega) (by omega)
  have e9_i : f (m + 7 + 5 * i) 9 = (rs i).2 9 := hR_i.2.1 9 (by omega) (by omega)
  have e10_i : f (m + 7 + 5 * i) 10 = (rs i).2 10 := hR_i.2.1 10 (by omega) (by omega)
  have e11_i : f (m + 7 + 5 * i) 11 = (rs i).2 11 := hR_i.2.1 11 (by omega) (by omega)
  have e15_i : f (m + 7 + 5 * i) 15 = (rs i).2 15 := hR_i.2.1 15 (by omega) (by omega)
  have e17_i : f (m + 7 + 5 * i) 17 = (rs i).2 17 := hR_i.2.1 17 (by omega) (by omega)
  have c3 : f ((m + 7 + 5 * i) + 1) 3 = nI (rs i).1.1 := hR_i.1.2.1
  have c4 : f ((m + 7 + 5 * i) + 1) 4 = (rs i).1.2.1 := hR_i.1.2.2.1
  match w, hw with
  | 0, _ =>
    refine mj_entry (by refine ⟨by decide +kernel, by decide, rfl, Nat.le_of_ble_eq_true rfl⟩) ?_
    show mj_W _ _ _ _ _ 0 [.ref x, .int (nI i), .int (nI 0), .null] [] _
    refine mj_aload_n (i := 0) (q := 1) dX5_ofRun_0 rfl rfl rfl ?_
    refine mj_iload_n (i := 1) (q := 2) dX5_ofRun_1 rfl rfl rfl ?_
    refine mj_cV1v (K := m_X5_requireRun) (q := 5) dX5_ofRun_2 ln_X5_98 ok_X5_requireRun (Nat.le_of_ble_eq_true rfl) (by decide) (by assumption) rfl rfl (s_reqRun hP2 hN2 hi) (fun h1 hq => ?_)
    obtain rfl := hq
    refine mj_iload_n (i := 2) (q := 6) dX5_ofRun_5 rfl rfl rfl ?_
    refine mj_num1 (v := 0) (q := 7) rfl dX5_ofRun_6 rfl ?_
    refine mj_num2 (v := 13) (q := 9) (by decide) dX5_ofRun_7 rfl ?_
    refine mj_cS3v (K := m_X5_requireWithin) (q := 12) dX5_ofRun_9 ln_X5_29 ok_X5_requireWithin (Nat.le_of_ble_eq_true rfl) (by decide) rfl (s_within (by decide) (by decide)) (fun h1 hq => ?_)
    obtain rfl := hq
    refine mj_aload_n (i := 0) (q := 13) dX5_ofRun_12 rfl rfl rfl ?_
    refine mj_getr (q := 16) dX5_ofRun_13 fl_X5_10 rfl rfl (by assumption) (by assumption) ?_
    refine mj_getr (q := 19) dX5_ofRun_16 fl_X5_65 rfl rfl (by assumption) (by assumption) ?_
    refine mj_iload_n (i := 1) (q := 20) dX5_ofRun_19 rfl rfl rfl ?_
    refine mj_aaldn (q := 21) dX5_ofRun_20 rfl (by assumption) ⟨by omega, by omega⟩ (by assumption) ?_
    refine mj_astore_n (i := 3) (q := 22) dX5_ofRun_21 rfl rfl (by decide) rfl ?_
    dsimp only [List.set]
    refine mj_iload_n (i := 2) (q := 23) dX5_ofRun_22 rfl rfl rfl ?_
    refine mj_tabIn (off := 65) (q := 88) dX5_ofRun_23 (by decide) (by decide) (by decide) (by decide) ?_
    refine mj_aload_n (i := 3) (q := 89) dX5_ofRun_88 rfl rfl rfl ?_
    refine mj_getfv (q := 92) dX5_ofRun_89 fl_X5_69 rfl rfl (by assumption) (by assumption) ?_
    exact mj_ireturn dX5_ofRun_92 ⟨_, rfl, rfl⟩ ⟨_, rfl, rfl, rfl⟩
  | 1, _ =>
    refine mj_entry (by refine ⟨by decide +kernel, by decide, rfl, Nat.le_of_ble_eq_true rfl⟩) ?_
    show mj_W _ _ _ _ _ 0 [.ref x, .int (nI i), .int (nI 1), .null] [] _
    refine mj_aload_n (i := 0) (q := 1) dX5_ofRun_0 rfl rfl rfl ?_
    refine mj_iload_n (i := 1) (q := 2) dX5_ofRun_1 rfl rfl rfl ?_
    refine mj_cV1v (K := m_X5_requireRun) (q := 5) dX5_ofRun_2 ln_X5_98 ok_X5_requireRun (Nat.le_of_ble_eq_true rfl) (by decide) (by assumption) rfl rfl (s_reqRun hP2 hN2 hi) (fun h1 hq => ?_)
    obtain rfl := hq
    refine mj_iload_n (i := 2) (q := 6) dX5_ofRun_5 rfl rfl rfl ?_
    refine mj_num1 (v := 0) (q := 7) rfl dX5_ofRun_6 rfl ?_
    refine mj_num2 (v := 13) (q := 9) (by decide) dX5_ofRun_7 rfl ?_
    refine mj_cS3v (K := m_X5_requireWithin) (q := 12) dX5_ofRun_9 ln_X5_29 ok_X5_requireWithin (Nat.le_of_ble_eq_true rfl) (by decide) rfl (s_within (by decide) (by decide)) (fun h1 hq => ?_)
    obtain rfl := hq
    refine mj_aload_n (i := 0) (q := 13) dX5_ofRun_12 rfl rfl rfl ?_
    refine mj_getr (q := 16) dX5_ofRun_13 fl_X5_10 rfl rfl (by assumption) (by assumption) ?_
    refine mj_getr (q := 19) dX5_ofRun_16 fl_X5_65 rfl rfl (by assumption) (by assumption) ?_
    refine mj_iload_n (i := 1) (q := 20) dX5_ofRun_19 rfl rfl rfl ?_
    refine mj_aaldn (q := 21) dX5_ofRun_20 rfl (by assumption) ⟨by omega, by omega⟩ (by assumption) ?_
    refine mj_astore_n (i := 3) (q := 22) dX5_ofRun_21 rfl rfl (by decide) rfl ?_
    dsimp only [List.set]
    refine mj_iload_n (i := 2) (q := 23) dX5_ofRun_22 rfl rfl rfl ?_
    refine mj_tabIn (off := 70) (q := 93) dX5_ofRun_23 (by decide) (by decide) (by decide) (by decide) ?_
    refine mj_aload_n (i := 3) (q := 94) dX5_ofRun_93 rfl rfl rfl ?_
    refine mj_getr (q := 97) dX5_ofRun_94 fl_X5_169 rfl rfl (by assumption) (by assumption) ?_
    refine mj_getfv (q := 100) dX5_ofRun_97 fl_X5_176 rfl rfl (by assumption) (by assumption) ?_
    exact mj_ireturn dX5_ofRun_100 ⟨_, rfl, rfl⟩ ⟨_, rfl, rfl, rfl⟩
  | 2, _ =>
    refine mj_entry (by refine ⟨by decide +kernel, by decide, rfl, Nat.le_of_ble_eq_true rfl⟩) ?_
    show mj_W _ _ _ _ _ 0 [.ref x, .int (nI i), .int (nI 2), .null] [] _
    refine mj_aload_n (i := 0) (q := 1) dX5_ofRun_0 rfl rfl rfl ?_
    refine mj_iload_n (i := 1) (q := 2) dX5_ofRun_1 rfl rfl rfl ?_
    refine mj_cV1v (K := m_X5_requireRun) (q := 5) dX5_ofRun_2 ln_X5_98 ok_X5_requireRun (Nat.le_of_ble_eq_true rfl) (by decide) (by assumption) rfl rfl (s_reqRun hP2 hN2 hi) (fun h1 hq => ?_)
    obtain rfl := hq
    refine mj_iload_n (i := 2) (q := 6) dX5_ofRun_5 rfl rfl rfl ?_
    refine mj_num1 (v := 0) (q := 7) rfl dX5_ofRun_6 rfl ?_
    refine mj_num2 (v := 13) (q := 9) (by decide) dX5_ofRun_7 rfl ?_
    refine mj_cS3v (K := m_X5_requireWithin) (q := 12) dX5_ofRun_9 ln_X5_29 ok_X5_requireWithin (Nat.le_of_ble_eq_true rfl) (by decide) rfl (s_within (by decide) (by decide)) (fun h1 hq => ?_)
    obtain rfl := hq
    refine mj_aload_n (i := 0) (q := 13) dX5_ofRun_12 rfl rfl rfl ?_
    refine mj_getr (q := 16) dX5_ofRun_13 fl_X5_10 rfl rfl (by assumption) (by assumption) ?_
    refine mj_getr (q := 19) dX5_ofRun_16 fl_X5_65 rfl rfl (by assumption) (by assumption) ?_
    refine mj_iload_n (i := 1) (q := 20) dX5_ofRun_19 rfl rfl rfl ?_
    refine mj_aaldn (q := 21) dX5_ofRun_20 rfl (by assumption) ⟨by omega, by omega⟩ (by assumption) ?_
    refine mj_astore_n (i := 3) (q := 22) dX5_ofRun_21 rfl rfl (by decide) rfl ?_
    dsimp only [List.set]
    refine mj_iload_n (i := 2) (q := 23) dX5_ofRun_22 rfl rfl rfl ?_
    refine mj_tabIn (off := 78) (q := 101) dX5_ofRun_23 (by decide) (by decide) (by decide) (by decide) ?_
    refine mj_aload_n (i := 3) (q := 102) dX5_ofRun_101 rfl rfl rfl ?_
    refine mj_getr (q := 105) dX5_ofRun_102 fl_X5_169 rfl rfl (by assumption) (by assumption) ?_
    refine mj_cV0i (K := m_X3_wholeDepth) (q := 108) dX5_ofRun_105 ln_X5_202 ok_X3_wholeDepth (Nat.le_of_ble_eq_true rfl) (by decide) (by assumption) rfl rfl (s_wholeDepth hL_i.2.2 hR_i.1) (fun r_105 h1 hq => ?_)
    obtain ⟨rfl, rfl⟩ := hq
    exact mj_ireturn dX5_ofRun_108 ⟨_, rfl, rfl⟩ ⟨_, rfl, rfl, rfl⟩
  | 3, _ =>
    refine mj_entry (by refine ⟨by decide +kernel, by decide, rfl, Nat.le_of_ble_eq_true rfl⟩) ?_
    show mj_W _ _ _ _ _ 0 [.ref x, .int (nI i), .int (nI 3), .null] [] _
    refine mj_aload_n (i := 0) (q := 1) dX5_ofRun_0 rfl rfl rfl ?_
    refine mj_iload_n (i := 1) (q := 2) dX5_ofRun_1 rfl rfl rfl ?_
    refine mj_cV1v (K := m_X5_requireRun) (q := 5) dX5_ofRun_2 ln_X5_98 ok_X5_requireRun (Nat.le_of_ble_eq_true rfl) (by decide) (by assumption) rfl rfl (s_reqRun hP2 hN2 hi) (fun h1 hq => ?_)
    obtain rfl := hq
    refine mj_iload_n (i := 2) (q := 6) dX5_ofRun_5 rfl rfl rfl ?_
    refine mj_num1 (v := 0) (q := 7) rfl dX5_ofRun_6 rfl ?_
    refine mj_num2 (v := 13) (q := 9) (by decide) dX5_ofRun_7 rfl ?_
    refine mj_cS3v (K := m_X5_requireWithin) (q := 12) dX5_ofRun_9 ln_X5_29 ok_X5_requireWithin (Nat.le_of_ble_eq_true rfl) (by decide) rfl (s_within (by decide) (by decide)) (fun h1 hq => ?_)
    obtain rfl := hq
    refine mj_aload_n (i := 0) (q := 13) dX5_ofRun_12 rfl rfl rfl ?_
    refine mj_getr (q := 16) dX5_ofRun_13 fl_X5_10 rfl rfl (by assumption) (by assumption) ?_
    refine mj_getr (q := 19) dX5_ofRun_16 fl_X5_65 rfl rfl (by assumption) (by assumption) ?_
    refine mj_iload_n (i := 1) (q := 20) dX5_ofRun_19 rfl rfl rfl ?_
    refine mj_aaldn (q := 21) dX5_ofRun_20 rfl (by assumption) ⟨by omega, by omega⟩ (by assumption) ?_
    refine mj_astore_n (i := 3) (q := 22) dX5_ofRun_21 rfl rfl (by decide) rfl ?_
    dsimp only [List.set]
    refine mj_iload_n (i := 2) (q := 23) dX5_ofRun_22 rfl rfl rfl ?_
    refine mj_tabIn (off := 86) (q := 109) dX5_ofRun_23 (by decide) (by decide) (by decide) (by decide) ?_
    refine mj_aload_n (i := 3) (q := 110) dX5_ofRun_109 rfl rfl rfl ?_
    refine mj_getr (q := 113) dX5_ofRun_110 fl_X5_169 rfl rfl (by assumption) (by assumption) ?_
    refine mj_getfv (q := 116) dX5_ofRun_113 fl_X5_205 rfl rfl (by assumption) (by assumption) ?_
    refine mj_cS1i (K := m_X5_oneIf) (q := 119) dX5_ofRun_116 ln_X5_208 ok_X5_oneIf (Nat.le_of_ble_eq_true rfl) (by decide) rfl (s_oneIf) (fun r_116 h1 hq => ?_)
    obtain ⟨rfl, rfl⟩ := hq
    exact mj_ireturn dX5_ofRun_119 ⟨_, rfl, rfl⟩ ⟨_, rfl, rfl, rfl⟩
  | 4, _ =>
    refine mj_entry (by refine ⟨by decide +kernel, by decide, rfl, Nat.le_of_ble_eq_true rfl⟩) ?_
    show mj_W _ _ _ _ _ 0 [.ref x, .int (nI i), .int (nI 4), .null] [] _
    refine mj_aload_n (i := 0) (q := 1) dX5_ofRun_0 rfl rfl rfl ?_
    refine mj_iload_n (i := 1) (q := 2) dX5_ofRun_1 rfl rfl rfl ?_
    refine mj_cV1v (K := m_X5_requireRun) (q := 5) dX5_ofRun_2 ln_X5_98 ok_X5_requireRun (Nat.le_of_ble_eq_true rfl) (by decide) (by assumption) rfl rfl (s_reqRun hP2 hN2 hi) (fun h1 hq => ?_)
    obtain rfl := hq
    refine mj_iload_n (i := 2) (q := 6) dX5_ofRun_5 rfl rfl rfl ?_
    refine mj_num1 (v := 0) (q := 7) rfl dX5_ofRun_6 rfl ?_
    refine mj_num2 (v := 13) (q := 9) (by decide) dX5_ofRun_7 rfl ?_
    refine mj_cS3v (K := m_X5_requireWithin) (q := 12) dX5_ofRun_9 ln_X5_29 ok_X5_requireWithin (Nat.le_of_ble_eq_true rfl) (by decide) rfl (s_within (by decide) (by decide)) (fun h1 hq => ?_)
    obtain rfl := hq
    refine mj_aload_n (i := 0) (q := 13) dX5_ofRun_12 rfl rfl rfl ?_
    refine mj_getr (q := 16) dX5_ofRun_13 fl_X5_10 rfl rfl (by assumption) (by assumption) ?_
    refine mj_getr (q := 19) dX5_ofRun_16 fl_X5_65 rfl rfl (by assumption) (by assumption) ?_
    refine mj_iload_n (i := 1) (q := 20) dX5_ofRun_19 rfl rfl rfl ?_
    refine mj_aaldn (q := 21) dX5_ofRun_20 rfl (by assumption) ⟨by omega, by omega⟩ (by assumption) ?_
    refine mj_astore_n (i := 3) (q := 22) dX5_ofRun_21 rfl rfl (by decide) rfl ?_
    dsimp only [List.set]
    refine mj_iload_n (i := 2) (q := 23) dX5_ofRun_22 rfl rfl rfl ?_
    refine mj_tabIn (off := 97) (q := 120) dX5_ofRun_23 (by decide) (by decide) (by decide) (by decide) ?_
    refine mj_aload_n (i := 3) (q := 121) dX5_ofRun_120 rfl rfl rfl ?_
    refine mj_cV0i (K := m_X2_risk) (q := 124) dX5_ofRun_121 ln_X5_143 ok_X2_risk (Nat.le_of_ble_eq_true rfl) (by decide) (by assumption) rfl rfl (s_runRisk hL_i hR_i) (fun r_121 h1 hq => ?_)
    obtain ⟨rfl, rfl⟩ := hq
    exact mj_ireturn dX5_ofRun_124 ⟨_, rfl, rfl⟩ ⟨_, rfl, rfl, rfl⟩
  | 5, _ =>
    refine mj_entry (by refine ⟨by decide +kernel, by decide, rfl, Nat.le_of_ble_eq_true rfl⟩) ?_
    show mj_W _ _ _ _ _ 0 [.ref x, .int (nI i), .int (nI 5), .null] [] _
    refine mj_aload_n (i := 0) (q := 1) dX5_ofRun_0 rfl rfl rfl ?_
    refine mj_iload_n (i := 1) (q := 2) dX5_ofRun_1 rfl rfl rfl ?_
    refine mj_cV1v (K := m_X5_requireRun) (q := 5) dX5_ofRun_2 ln_X5_98 ok_X5_requireRun (Nat.le_of_ble_eq_true rfl) (by decide) (by assumption) rfl rfl (s_reqRun hP2 hN2 hi) (fun h1 hq => ?_)
    obtain rfl := hq
    refine mj_iload_n (i := 2) (q := 6) dX5_ofRun_5 rfl rfl rfl ?_
    refine mj_num1 (v := 0) (q := 7) rfl dX5_ofRun_6 rfl ?_
    refine mj_num2 (v := 13) (q := 9) (by decide) dX5_ofRun_7 rfl ?_
    refine mj_cS3v (K := m_X5_requireWithin) (q := 12) dX5_ofRun_9 ln_X5_29 ok_X5_requireWithin (Nat.le_of_ble_eq_true rfl) (by decide) rfl (s_within (by decide) (by decide)) (fun h1 hq => ?_)
    obtain rfl := hq
    refine mj_aload_n (i := 0) (q := 13) dX5_ofRun_12 rfl rfl rfl ?_
    refine mj_getr (q := 16) dX5_ofRun_13 fl_X5_10 rfl rfl (by assumption) (by assumption) ?_
    refine mj_getr (q := 19) dX5_ofRun_16 fl_X5_65 rfl rfl (by assumption) (by assumption) ?_
    refine mj_iload_n (i := 1) (q := 20) dX5_ofRun_19 rfl rfl rfl ?_
    refine mj_aaldn (q := 21) dX5_ofRun_20 rfl (by assumption) ⟨by omega, by omega⟩ (by assumption) ?_
    refine mj_astore_n (i := 3) (q := 22) dX5_ofRun_21 rfl rfl (by decide) rfl ?_
    dsimp only [List.set]
    refine mj_iload_n (i := 2) (q := 23) dX5_ofRun_22 rfl rfl rfl ?_
    refine mj_tabIn (off := 102) (q := 125) dX5_ofRun_23 (by decide) (by decide) (by decide) (by decide) ?_
    refine mj_aload_n (i := 3) (q := 126) dX5_ofRun_125 rfl rfl rfl ?_
    refine mj_cV0i (K := m_X2_shear) (q := 129) dX5_ofRun_126 ln_X5_212 ok_X2_shear (Nat.le_of_ble_eq_true rfl) (by decide) (by assumption) rfl rfl (s_runShear hL_i hR_i) (fun r_126 h1 hq => ?_)
    obtain ⟨rfl, rfl⟩ := hq
    exact mj_ireturn dX5_ofRun_129 ⟨_, rfl, rfl⟩ ⟨_, rfl, rfl, rfl⟩
  | 6, _ =>
    refine mj_entry (by refine ⟨by decide +kernel, by decide, rfl, Nat.le_of_ble_eq_true rfl⟩) ?_
    show mj_W _ _ _ _ _ 0 [.ref x, .int (nI i), .int (nI 6), .null] [] _
    refine mj_aload_n (i := 0) (q := 1) dX5_ofRun_0 rfl rfl rfl ?_
    refine mj_iload_n (i := 1) (q := 2) dX5_ofRun_1 rfl rfl rfl ?_
    refine mj_cV1v (K := m_X5_requireRun) (q := 5) dX5_ofRun_2 ln_X5_98 ok_X5_requireRun (Nat.le_of_ble_eq_true rfl) (by decide) (by assumption) rfl rfl (s_reqRun hP2 hN2 hi) (fun h1 hq => ?_)
    obtain rfl := hq
    refine mj_iload_n (i := 2) (q := 6) dX5_ofRun_5 rfl rfl rfl ?_
    refine mj_num1 (v := 0) (q := 7) rfl dX5_ofRun_6 rfl ?_
    refine mj_num2 (v := 13) (q := 9) (by decide) dX5_ofRun_7 rfl ?_
    refine mj_cS3v (K := m_X5_requireWithin) (q := 12) dX5_ofRun_9 ln_X5_29 ok_X5_requireWithin (Nat.le_of_ble_eq_true rfl) (by decide) rfl (s_within (by decide) (by decide)) (fun h1 hq => ?_)
    obtain rfl := hq
    refine mj_aload_n (i := 0) (q := 13) dX5_ofRun_12 rfl rfl rfl ?_
    refine mj_getr (q := 16) dX5_ofRun_13 fl_X5_10 rfl rfl (by assumption) (by assumption) ?_
    refine mj_getr (q := 19) dX5_ofRun_16 fl_X5_65 rfl rfl (by assumption) (by assumption) ?_
    refine mj_iload_n (i := 1) (q := 20) dX5_ofRun_19 rfl rfl rfl ?_
    refine mj_aaldn (q := 21) dX5_ofRun_20 rfl (by assumption) ⟨by omega, by omega⟩ (by assumption) ?_
    refine mj_astore_n (i := 3) (q := 22) dX5_ofRun_21 rfl rfl (by decide) rfl ?_
    dsimp only [List.set]
    refine mj_iload_n (i := 2) (q := 23) dX5_ofRun_22 rfl rfl rfl ?_
    refine mj_tabIn (off := 107) (q := 130) dX5_ofRun_23 (by decide) (by decide) (by decide) (by decide) ?_
    refine mj_aload_n (i := 3) (q := 131) dX5_ofRun_130 rfl rfl rfl ?_
    refine mj_getfv (q := 134) dX5_ofRun_131 fl_X5_194 rfl rfl (by assumption) (by assumption) ?_
    refine mj_cS1i (K := m_X5_oneIf) (q := 137) dX5_ofRun_134 ln_X5_208 ok_X5_oneIf (Nat.le_of_ble_eq_true rfl) (by decide) rfl (s_oneIf) (fun r_134 h1 hq => ?_)
    obtain ⟨rfl, rfl⟩ := hq
    exact mj_ireturn dX5_ofRun_137 ⟨_, rfl, rfl⟩ ⟨_, rfl, rfl, rfl⟩
  | 7, _ =>
    refine mj_entry (by refine ⟨by decide +kernel, by decide, rfl, Nat.le_of_ble_eq_true rfl⟩) ?_
    show mj_W _ _ _ _ _ 0 [.ref x, .int (nI i), .int (nI 7), .null] [] _
    refine mj_aload_n (i := 0) (q := 1) dX5_ofRun_0 rfl rfl rfl ?_
    refine mj_iload_n (i := 1) (q := 2) dX5_ofRun_1 rfl rfl rfl ?_
    refine mj_cV1v (K := m_X5_requireRun) (q := 5) dX5_ofRun_2 ln_X5_98 ok_X5_requireRun (Nat.le_of_ble_eq_true rfl) (by decide) (by assumption) rfl rfl (s_reqRun hP2 hN2 hi) (fun h1 hq => ?_)
    obtain rfl := hq
    refine mj_iload_n (i := 2) (q := 6) dX5_ofRun_5 rfl rfl rfl ?_
    refine mj_num1 (v := 0) (q := 7) rfl dX5_ofRun_6 rfl ?_
    refine mj_num2 (v := 13) (q := 9) (by decide) dX5_ofRun_7 rfl ?_
    refine mj_cS3v (K := m_X5_requireWithin) (q := 12) dX5_ofRun_9 ln_X5_29 ok_X5_requireWithin (Nat.le_of_ble_eq_true rfl) (by decide) rfl (s_within (by decide) (by decide)) (fun h1 hq => ?_)
    obtain rfl := hq
    refine mj_aload_n (i := 0) (q := 13) dX5_ofRun_12 rfl rfl rfl ?_
    refine mj_getr (q := 16) dX5_ofRun_13 fl_X5_10 rfl rfl (by assumption) (by assumption) ?_
    refine mj_getr (q := 19) dX5_ofRun_16 fl_X5_65 rfl rfl (by assumption) (by assumption) ?_
    refine mj_iload_n (i := 1) (q := 20) dX5_ofRun_19 rfl rfl rfl ?_
    refine mj_aaldn (q := 21) dX5_ofRun_20 rfl (by assumption) ⟨by omega, by omega⟩ (by assumption) ?_
    refine mj_astore_n (i := 3) (q := 22) dX5_ofRun_21 rfl rfl (by decide) rfl ?_
    dsimp only [List.set]
    refine mj_iload_n (i := 2) (q := 23) dX5_ofRun_22 rfl rfl rfl ?_
    refine mj_tabIn (off := 115) (q := 138) dX5_ofRun_23 (by decide) (by decide) (by decide) (by decide) ?_
    refine mj_aload_n (i := 3) (q := 139) dX5_ofRun_138 rfl rfl rfl ?_
    refine mj_getfv (q := 142) dX5_ofRun_139 fl_X5_140 rfl rfl (by assumption) (by assumption) ?_
    exact mj_ireturn dX5_ofRun_142 ⟨_, rfl, rfl⟩ ⟨_, rfl, rfl, rfl⟩
  | 8, _ =>
    refine mj_entry (by refine ⟨by decide +kernel, by decide, rfl, Nat.le_of_ble_eq_true rfl⟩) ?_
    show mj_W _ _ _ _ _ 0 [.ref x, .int (nI i), .int (nI 8), .null] [] _
    refine mj_aload_n (i := 0) (q := 1) dX5_ofRun_0 rfl rfl rfl ?_
    refine mj_iload_n (i := 1) (q := 2) dX5_ofRun_1 rfl rfl rfl ?_
    refine mj_cV1v (K := m_X5_requireRun) (q := 5) dX5_ofRun_2 ln_X5_98 ok_X5_requireRun (Nat.le_of_ble_eq_true rfl) (by decide) (by assumption) rfl rfl (s_reqRun hP2 hN2 hi) (fun h1 hq => ?_)
    obtain rfl := hq
    refine mj_iload_n (i := 2) (q := 6) dX5_ofRun_5 rfl rfl rfl ?_
    refine mj_num1 (v := 0) (q := 7) rfl dX5_ofRun_6 rfl ?_
    refine mj_num2 (v := 13) (q := 9) (by decide) dX5_ofRun_7 rfl ?_
    refine mj_cS3v (K := m_X5_requireWithin) (q := 12) dX5_ofRun_9 ln_X5_29 ok_X5_requireWithin (Nat.le_of_ble_eq_true rfl) (by decide) rfl (s_within (by decide) (by decide)) (fun h1 hq => ?_)
    obtain rfl := hq
    refine mj_aload_n (i := 0) (q := 13) dX5_ofRun_12 rfl rfl rfl ?_
    refine mj_getr (q := 16) dX5_ofRun_13 fl_X5_10 rfl rfl (by assumption) (by assumption) ?_
    refine mj_getr (q := 19) dX5_ofRun_16 fl_X5_65 rfl rfl (by assumption) (by assumption) ?_
    refine mj_iload_n (i := 1) (q := 20) dX5_ofRun_19 rfl rfl rfl ?_
    refine mj_aaldn (q := 21) dX5_ofRun_20 rfl (by assumption) ⟨by omega, by omega⟩ (by assumption) ?_
    refine mj_astore_n (i := 3) (q := 22) dX5_ofRun_21 rfl rfl (by decide) rfl ?_
    dsimp only [List.set]
    refine mj_iload_n (i := 2) (q := 23) dX5_ofRun_22 rfl rfl rfl ?_
    refine mj_tabIn (off := 120) (q := 143) dX5_ofRun_23 (by decide) (by decide) (by decide) (by decide) ?_
    refine mj_aload_n (i := 0) (q := 144) dX5_ofRun_143 rfl rfl rfl ?_
    refine mj_getr (q := 147) dX5_ofRun_144 fl_X5_10 rfl rfl (by assumption) (by assumption) ?_
    refine mj_aload_n (i := 3) (q := 148) dX5_ofRun_147 rfl rfl rfl ?_
    refine mj_cV1i (K := m_X1_barNow) (q := 151) dX5_ofRun_148 ln_X5_191 ok_X1_barNow (Nat.le_of_ble_eq_true rfl) (by decide) (by assumption) rfl rfl (s_barNow hL2 hN2 hi) (fun r_148 h1 hq => ?_)
    obtain ⟨rfl, rfl⟩ := hq
    exact mj_ireturn dX5_ofRun_151 ⟨_, rfl, rfl⟩ ⟨_, rfl, rfl, rfl⟩
  | 9, _ =>
    refine mj_entry (by refine ⟨by decide +kernel, by decide, rfl, Nat.le_of_ble_eq_true rfl⟩) ?_
    show mj_W _ _ _ _ _ 0 [.ref x, .int (nI i), .int (nI 9), .null] [] _
    refine mj_aload_n (i := 0) (q := 1) dX5_ofRun_0 rfl rfl rfl ?_
    refine mj_iload_n (i := 1) (q := 2) dX5_ofRun_1 rfl rfl rfl ?_
    refine mj_cV1v (K := m_X5_requireRun) (q := 5) dX5_ofRun_2 ln_X5_98 ok_X5_requireRun (Nat.le_of_ble_eq_true rfl) (by decide) (by assumption) rfl rfl (s_reqRun hP2 hN2 hi) (fun h1 hq => ?_)
    obtain rfl := hq
    refine mj_iload_n (i := 2) (q := 6) dX5_ofRun_5 rfl rfl rfl ?_
    refine mj_num1 (v := 0) (q := 7) rfl dX5_ofRun_6 rfl ?_
    refine mj_num2 (v := 13) (q := 9) (by decide) dX5_ofRun_7 rfl ?_
    refine mj_cS3v (K := m_X5_requireWithin) (q := 12) dX5_ofRun_9 ln_X5_29 ok_X5_requireWithin (Nat.le_of_ble_eq_true rfl) (by decide) rfl (s_within (by decide) (by decide)) (fun h1 hq => ?_)
    obtain rfl := hq
    refine mj_aload_n (i := 0) (q := 13) dX5_ofRun_12 rfl rfl rfl ?_
    refine mj_getr (q := 16) dX5_ofRun_13 fl_X5_10 rfl rfl (by assumption) (by assumption) ?_
    refine mj_getr (q := 19) dX5_ofRun_16 fl_X5_65 rfl rfl (by assumption) (by assumption) ?_
    refine mj_iload_n (i := 1) (q := 20) dX5_ofRun_19 rfl rfl rfl ?_
    refine mj_aaldn (q := 21) dX5_ofRun_20 rfl (by assumption) ⟨by omega, by omega⟩ (by assumption) ?_
    refine mj_astore_n (i := 3) (q := 22) dX5_ofRun_21 rfl rfl (by decide) rfl ?_
    dsimp only [List.set]
    refine mj_iload_n (i := 2) (q := 23) dX5_ofRun_22 rfl rfl rfl ?_
    refine mj_tabIn (off := 129) (q := 152) dX5_ofRun_23 (by decide) (by decide) (by decide) (by decide) ?_
    refine mj_aload_n (i := 0) (q := 153) dX5_ofRun_152 rfl rfl rfl ?_
    refine mj_getr (q := 156) dX5_ofRun_153 fl_X5_10 rfl rfl (by assumption) (by assumption) ?_
    refine mj_aload_n (i := 3) (q := 157) dX5_ofRun_156 rfl rfl rfl ?_
    refine mj_cV1i (K := m_X1_isTested) (q := 160) dX5_ofRun_157 ln_X5_215 ok_X1_isTested (Nat.le_of_ble_eq_true rfl) (by decide) (by assumption) rfl rfl (s_isTested hL2 hN2 hi) (fun r_157 h1 hq => ?_)
    obtain ⟨rfl, hr_157⟩ := hq
    dsimp only at hr_157
    refine mj_if_eq (tgt := 170) (q := 163) dX5_ofRun_160 (by decide) rfl (fun c_160 => ?_) (fun c_160 => ?_)
    · refine mj_num1 (v := (-1)) (q := 171) rfl dX5_ofRun_170 rfl ?_
      exact mj_ireturn dX5_ofRun_171 ⟨_, rfl, rfl⟩ ⟨_, rfl, rfl, by simp only [vOfRun]; rw [if_neg (fun z => by rw [z] at hr_157; rw [hr_157] at c_160; exact absurd c_160 (by decide))]⟩
    · refine mj_aload_n (i := 3) (q := 164) dX5_ofRun_163 rfl rfl rfl ?_
      refine mj_getfv (q := 167) dX5_ofRun_164 fl_X5_157 rfl rfl (by assumption) (by assumption) ?_
      refine mj_goto (q := 171) dX5_ofRun_167 (by decide) ?_
      exact mj_ireturn dX5_ofRun_171 ⟨_, rfl, rfl⟩ ⟨_, rfl, rfl, by simp only [vOfRun]; rw [if_pos (by rw [hr_157] at c_160; exact Decidable.byContradiction (fun z => c_160 (if_neg z)))]⟩
  | 10, _ =>
    refine mj_entry (by refine ⟨by decide +kernel, by decide, rfl, Nat.le_of_ble_eq_true rfl⟩) ?_
    show mj_W _ _ _ _ _ 0 [.ref x, .int (nI i), .int (nI 10), .null] [] _
    refine mj_aload_n (i := 0) (q := 1) dX5_ofRun_0 rfl rfl rfl ?_
    refine mj_iload_n (i := 1) (q := 2) dX5_ofRun_1 rfl rfl rfl ?_
    refine mj_cV1v (K := m_X5_requireRun) (q := 5) dX5_ofRun_2 ln_X5_98 ok_X5_requireRun (Nat.le_of_ble_eq_true rfl) (by decide) (by assumption) rfl rfl (s_reqRun hP2 hN2 hi) (fun h1 hq => ?_)
    obtain rfl := hq
    refine mj_iload_n (i := 2) (q := 6) dX5_ofRun_5 rfl rfl rfl ?_
    refine mj_num1 (v := 0) (q := 7) rfl dX5_ofRun_6 rfl ?_
    refine mj_num2 (v := 13) (q := 9) (by decide) dX5_ofRun_7 rfl ?_
    refine mj_cS3v (K := m_X5_requireWithin) (q := 12) dX5_ofRun_9 ln_X5_29 ok_X5_requireWithin (Nat.le_of_ble_eq_true rfl) (by decide) rfl (s_within (by decide) (by decide)) (fun h1 hq => ?_)
    obtain rfl := hq
    refine mj_aload_n (i := 0) (q := 13) dX5_ofRun_12 rfl rfl rfl ?_
    refine mj_getr (q := 16) dX5_ofRun_13 fl_X5_10 rfl rfl (by assumption) (by assumption) ?_
    refine mj_getr (q := 19) dX5_ofRun_16 fl_X5_65 rfl rfl (by assumption) (by assumption) ?_
    refine mj_iload_n (i := 1) (q := 20) dX5_ofRun_19 rfl rfl rfl ?_
    refine mj_aaldn (q := 21) dX5_ofRun_20 rfl (by assumption) ⟨by omega, by omega⟩ (by assumption) ?_
    refine mj_astore_n (i := 3) (q := 22) dX5_ofRun_21 rfl rfl (by decide) rfl ?_
    dsimp only [List.set]
    refine mj_iload_n (i := 2) (q := 23) dX5_ofRun_22 rfl rfl rfl ?_
    refine mj_tabIn (off := 149) (q := 172) dX5_ofRun_23 (by decide) (by decide) (by decide) (by decide) ?_
    refine mj_aload_n (i := 3) (q := 173) dX5_ofRun_172 rfl rfl rfl ?_
    refine mj_getfv (q := 176) dX5_ofRun_173 fl_X5_219 rfl rfl (by assumption) (by assumption) ?_
    exact mj_ireturn dX5_ofRun_176 ⟨_, rfl, rfl⟩ ⟨_, rfl, rfl, rfl⟩
  | 11, _ =>
    refine mj_entry (by refine ⟨by decide +kernel, by decide, rfl, Nat.le_of_ble_eq_true rfl⟩) ?_
    show mj_W _ _ _ _ _ 0 [.ref x, .int (nI i), .int (nI 11), .null] [] _
    refine mj_aload_n (i := 0) (q := 1) dX5_ofRun_0 rfl rfl rfl ?_
    refine mj_iload_n (i := 1) (q := 2) dX5_ofRun_1 rfl rfl rfl ?_
    refine mj_cV1v (K := m_X5_requireRun) (q := 5) dX5_ofRun_2 ln_X5_98 ok_X5_requireRun (Nat.le_of_ble_eq_true rfl) (by decide) (by assumption) rfl rfl (s_reqRun hP2 hN2 hi) (fun h1 hq => ?_)
    obtain rfl := hq
    refine mj_iload_n (i := 2) (q := 6) dX5_ofRun_5 rfl rfl rfl ?_
    refine mj_num1 (v := 0) (q := 7) rfl dX5_ofRun_6 rfl ?_
    refine mj_num2 (v := 13) (q := 9) (by decide) dX5_ofRun_7 rfl ?_
    refine mj_cS3v (K := m_X5_requireWithin) (q := 12) dX5_ofRun_9 ln_X5_29 ok_X5_requireWithin (Nat.le_of_ble_eq_true rfl) (by decide) rfl (s_within (by decide) (by decide)) (fun h1 hq => ?_)
    obtain rfl := hq
    refine mj_aload_n (i := 0) (q := 13) dX5_ofRun_12 rfl rfl rfl ?_
    refine mj_getr (q := 16) dX5_ofRun_13 fl_X5_10 rfl rfl (by assumption) (by assumption) ?_
    refine mj_getr (q := 19) dX5_ofRun_16 fl_X5_65 rfl rfl (by assumption) (by assumption) ?_
    refine mj_iload_n (i := 1) (q := 20) dX5_ofRun_19 rfl rfl rfl ?_
    refine mj_aaldn (q := 21) dX5_ofRun_20 rfl (by assumption) ⟨by omega, by omega⟩ (by assumption) ?_
    refine mj_astore_n (i := 3) (q := 22) dX5_ofRun_21 rfl rfl (by decide) rfl ?_
    dsimp only [List.set]
    refine mj_iload_n (i := 2) (q := 23) dX5_ofRun_22 rfl rfl rfl ?_
    refine mj_tabIn (off := 154) (q := 177) dX5_ofRun_23 (by decide) (by decide) (by decide) (by decide) ?_
    refine mj_aload_n (i := 3) (q := 178) dX5_ofRun_177 rfl rfl rfl ?_
    refine mj_getfv (q := 181) dX5_ofRun_178 fl_X5_222 rfl rfl (by assumption) (by assumption) ?_
    exact mj_ireturn dX5_ofRun_181 ⟨_, rfl, rfl⟩ ⟨_, rfl, rfl, rfl⟩
  | 12, _ =>
    refine mj_entry (by refine ⟨by decide +kernel, by decide, rfl, Nat.le_of_ble_eq_true rfl⟩) ?_
    show mj_W _ _ _ _ _ 0 [.ref x, .int (nI i), .int (nI 12), .null] [] _
    refine mj_aload_n (i := 0) (q := 1) dX5_ofRun_0 rfl rfl rfl ?_
    refine mj_iload_n (i := 1) (q := 2) dX5_ofRun_1 rfl rfl rfl ?_
    refine mj_cV1v (K := m_X5_requireRun) (q := 5) dX5_ofRun_2 ln_X5_98 ok_X5_requireRun (Nat.le_of_ble_eq_true rfl) (by decide) (by assumption) rfl rfl (s_reqRun hP2 hN2 hi) (fun h1 hq => ?_)
    obtain rfl := hq
    refine mj_iload_n (i := 2) (q := 6) dX5_ofRun_5 rfl rfl rfl ?_
    refine mj_num1 (v := 0) (q := 7) rfl dX5_ofRun_6 rfl ?_
    refine mj_num2 (v := 13) (q := 9) (by decide) dX5_ofRun_7 rfl ?_
    refine mj_cS3v (K := m_X5_requireWithin) (q := 12) dX5_ofRun_9 ln_X5_29 ok_X5_requireWithin (Nat.le_of_ble_eq_true rfl) (by decide) rfl (s_within (by decide) (by decide)) (fun h1 hq => ?_)
    obtain rfl := hq
    refine mj_aload_n (i := 0) (q := 13) dX5_ofRun_12 rfl rfl rfl ?_
    refine mj_getr (q := 16) dX5_ofRun_13 fl_X5_10 rfl rfl (by assumption) (by assumption) ?_
    refine mj_getr (q := 19) dX5_ofRun_16 fl_X5_65 rfl rfl (by assumption) (by assumption) ?_
    refine mj_iload_n (i := 1) (q := 20) dX5_ofRun_19 rfl rfl rfl ?_
    refine mj_aaldn (q := 21) dX5_ofRun_20 rfl (by assumption) ⟨by omega, by omega⟩ (by assumption) ?_
    refine mj_astore_n (i := 3) (q := 22) dX5_ofRun_21 rfl rfl (by decide) rfl ?_
    dsimp only [List.set]
    refine mj_iload_n (i := 2) (q := 23) dX5_ofRun_22 rfl rfl rfl ?_
    refine mj_tabIn (off := 159) (q := 182) dX5_ofRun_23 (by decide) (by decide) (by decide) (by decide) ?_
    refine mj_aload_n (i := 3) (q := 183) dX5_ofRun_182 rfl rfl rfl ?_
    refine mj_getfv (q := 186) dX5_ofRun_183 fl_X5_225 rfl rfl (by assumption) (by assumption) ?_
    exact mj_ireturn dX5_ofRun_186 ⟨_, rfl, rfl⟩ ⟨_, rfl, rfl, rfl⟩
  | 13, _ =>
    refine mj_entry (by refine ⟨by decide +kernel, by decide, rfl, Nat.le_of_ble_eq_true rfl⟩) ?_
    show mj_W _ _ _ _ _ 0 [.ref x, .int (nI i), .int (nI 13), .null] [] _
    refine mj_aload_n (i := 0) (q := 1) dX5_ofRun_0 rfl rfl rfl ?_
    refine mj_iload_n (i := 1) (q := 2) dX5_ofRun_1 rfl rfl rfl ?_
    refine mj_cV1v (K := m_X5_requireRun) (q := 5) dX5_ofRun_2 ln_X5_98 ok_X5_requireRun (Nat.le_of_ble_eq_true rfl) (by decide) (by assumption) rfl rfl (s_reqRun hP2 hN2 hi) (fun h1 hq => ?_)
    obtain rfl := hq
    refine mj_iload_n (i := 2) (q := 6) dX5_ofRun_5 rfl rfl rfl ?_
    refine mj_num1 (v := 0) (q := 7) rfl dX5_ofRun_6 rfl ?_
    refine mj_num2 (v := 13) (q := 9) (by decide) dX5_ofRun_7 rfl ?_
    refine mj_cS3v (K := m_X5_requireWithin) (q := 12) dX5_ofRun_9 ln_X5_29 ok_X5_requireWithin (Nat.le_of_ble_eq_true rfl) (by decide) rfl (s_within (by decide) (by decide)) (fun h1 hq => ?_)
    obtain rfl := hq
    refine mj_aload_n (i := 0) (q := 13) dX5_ofRun_12 rfl rfl rfl ?_
    refine mj_getr (q := 16) dX5_ofRun_13 fl_X5_10 rfl rfl (by assumption) (by assumption) ?_
    refine mj_getr (q := 19) dX5_ofRun_16 fl_X5_65 rfl rfl (by assumption) (by assumption) ?_
    refine mj_iload_n (i := 1) (q := 20) dX5_ofRun_19 rfl rfl rfl ?_
    refine mj_aaldn (q := 21) dX5_ofRun_20 rfl (by assumption) ⟨by omega, by omega⟩ (by assumption) ?_
    refine mj_astore_n (i := 3) (q := 22) dX5_ofRun_21 rfl rfl (by decide) rfl ?_
    dsimp only [List.set]
    refine mj_iload_n (i := 2) (q := 23) dX5_ofRun_22 rfl rfl rfl ?_
    refine mj_tabOut (q := 187) dX5_ofRun_23 (Or.inr (by decide)) (by decide) ?_
    refine mj_aload_n (i := 3) (q := 188) dX5_ofRun_187 rfl rfl rfl ?_
    refine mj_getfv (q := 191) dX5_ofRun_188 fl_X5_163 rfl rfl (by assumption) (by assumption) ?_
    refine mj_cS1i (K := m_X5_oneIf) (q := 194) dX5_ofRun_191 ln_X5_208 ok_X5_oneIf (Nat.le_of_ble_eq_true rfl) (by decide) rfl (s_oneIf) (fun r_191 h1 hq => ?_)
    obtain ⟨rfl, rfl⟩ := hq
    exact mj_ireturn dX5_ofRun_194 ⟨_, rfl, rfl⟩ ⟨_, rfl, rfl, rfl⟩
  | n9 + 14, h9 => exact absurd h9 (by omega)
set_option maxHeartbeats 4000000 in
set_option maxRecDepth 100000 in
theorem s_ofLayer {d x m i l w : Nat} {n : Nat} {K : Nat → mj_K} {f : Nat → Nat → Int32} {g : Nat → Nat → Option Nat} {y : mV} (hP : LPn K g x m) (hN : MN f m y) (hi : i < y.2.1) (hl : l < (y.2.2.2.2 i).1.1) (hw : w < 3) : mj_Ci m_X5_ofLayer (d + 1) [.ref x, .int (nI i), .int (nI l), .int (nI w)] (n, K, f, g) (fun r h1 => h1 = (n, K, f, g) ∧ r = vOfLayer y i l w) := by
  have hP2 := hP
  have hN2 := hN
  obtain ⟨kx, hxm, gx0, gx1, gx2, gx3, hL, hLt, hLb, kw⟩ := hP
  have hL2 := hL
  obtain ⟨km, gm0, gm1, km1, km6, hLl, hLr⟩ := hL
  obtain ⟨lc, rc, mu, ls, rs⟩ := y
  obtain ⟨n1, n2, n3, n4, n5, n6, n7, n8⟩ := hN
  dsimp only at n1 n2 n3 n4 n5 n6 n7 n8
  have hi : i < rc := hi
  have hl : l < (rs i).1.1 := hl
  have hg_i : g (m + 6) i = some (m + 7 + 5 * i) := (hLr i (by omega)).1
  have hL_i := (hLr i (by omega)).2
  have kr_i : K (m + 7 + 5 * i) = (2, 2, 0) := hL_i.1
  have gr_i : g (m + 7 + 5 * i) 0 = some ((m + 7 + 5 * i) + 1) := hL_i.2.1
  have ks_i : K ((m + 7 + 5 * i) + 1) = (2, 3, 0) := hL_i.2.2.1
  have hR_i := n7 i (by omega)
  have h8 : (rs i).1.1 ≤ 8 := hR_i.1.1
  have c3 : f ((m + 7 + 5 * i) + 1) 3 = nI (rs i).1.1 := hR_i.1.2.1
  obtain ⟨k0, k1, k2, k3, q0, q1, q2⟩ := hL_i.2.2
  match w, hw with
  | 0, _ =>
    refine mj_entry (by refine ⟨by decide +kernel, by decide, rfl, Nat.le_of_ble_eq_true rfl⟩) ?_
    show mj_W _ _ _ _ _ 0 [.ref x, .int (nI i), .int (nI l), .int (nI 0), .null] [] _
    refine mj_aload_n (i := 0) (q := 1) dX5_ofLayer_0 rfl rfl rfl ?_
    refine mj_iload_n (i := 1) (q := 2) dX5_ofLayer_1 rfl rfl rfl ?_
    refine mj_cV1v (K := m_X5_requireRun) (q := 5) dX5_ofLayer_2 ln_X5_98 ok_X5_requireRun (Nat.le_of_ble_eq_true rfl) (by decide) (by assumption) rfl rfl (s_reqRun hP2 hN2 hi) (fun h1 hq => ?_)
    obtain rfl := hq
    refine mj_aload_n (i := 0) (q := 6) dX5_ofLayer_5 rfl rfl rfl ?_
    refine mj_getr (q := 9) dX5_ofLayer_6 fl_X5_10 rfl rfl (by assumption) (by assumption) ?_
    refine mj_getr (q := 12) dX5_ofLayer_9 fl_X5_65 rfl rfl (by assumption) (by assumption) ?_
    refine mj_iload_n (i := 1) (q := 13) dX5_ofLayer_12 rfl rfl rfl ?_
    refine mj_aaldn (q := 14) dX5_ofLayer_13 rfl (by assumption) ⟨by omega, by omega⟩ (by assumption) ?_
    refine mj_getr (q := 17) dX5_ofLayer_14 fl_X5_169 rfl rfl (by assumption) (by assumption) ?_
    refine mj_astore (i := 4) (q := 19) dX5_ofLayer_17 rfl (by decide) rfl ?_
    dsimp only [List.set]
    refine mj_iload_n (i := 2) (q := 20) dX5_ofLayer_19 rfl rfl rfl ?_
    refine mj_if_lt (tgt := 32) (q := 23) dX5_ofLayer_20 (by decide) rfl (fun c_20 => absurd c_20 (nI_pos (by omega))) (fun c_20 => ?_)
    refine mj_iload_n (i := 2) (q := 24) dX5_ofLayer_23 rfl rfl rfl ?_
    refine mj_aload (i := 4) (q := 26) dX5_ofLayer_24 rfl rfl ?_
    refine mj_getfv (q := 29) dX5_ofLayer_26 fl_X5_176 rfl rfl (by assumption) (by assumption) ?_
    refine mj_icmp_lt (tgt := 42) (q := 32) dX5_ofLayer_29 (by decide) rfl (fun c_29 => ?_) (fun c_29 => absurd (nI_lt hl (by omega)) c_29)
    refine mj_iload_n (i := 3) (q := 43) dX5_ofLayer_42 rfl rfl rfl ?_
    refine mj_num1 (v := 0) (q := 44) rfl dX5_ofLayer_43 rfl ?_
    refine mj_num1 (v := 2) (q := 45) rfl dX5_ofLayer_44 rfl ?_
    refine mj_cS3v (K := m_X5_requireWithin) (q := 48) dX5_ofLayer_45 ln_X5_29 ok_X5_requireWithin (Nat.le_of_ble_eq_true rfl) (by decide) rfl (s_within (by decide) (by decide)) (fun h1 hq => ?_)
    obtain rfl := hq
    refine mj_iload_n (i := 3) (q := 49) dX5_ofLayer_48 rfl rfl rfl ?_
    refine mj_look (off := 27) (q := 76) dX5_ofLayer_49 (by decide) (by decide) (by decide) ?_
    refine mj_aload (i := 4) (q := 78) dX5_ofLayer_76 rfl rfl ?_
    refine mj_getr (q := 81) dX5_ofLayer_78 fl_X5_231 rfl rfl (by assumption) (by assumption) ?_
    refine mj_iload_n (i := 2) (q := 82) dX5_ofLayer_81 rfl rfl rfl ?_
    refine mj_ialdn (q := 83) dX5_ofLayer_82 rfl (by assumption) ⟨by omega, by omega⟩ ?_
    exact mj_ireturn dX5_ofLayer_83 ⟨_, rfl, rfl⟩ ⟨_, rfl, ⟨rfl, hR_i.1.2.2.2.2.1 l (by omega)⟩⟩
  | 1, _ =>
    refine mj_entry (by refine ⟨by decide +kernel, by decide, rfl, Nat.le_of_ble_eq_true rfl⟩) ?_
    show mj_W _ _ _ _ _ 0 [.ref x, .int (nI i), .int (nI l), .int (nI 1), .null] [] _
    refine mj_aload_n (i := 0) (q := 1) dX5_ofLayer_0 rfl rfl rfl ?_
    refine mj_iload_n (i := 1) (q := 2) dX5_ofLayer_1 rfl rfl rfl ?_
    refine mj_cV1v (K := m_X5_requireRun) (q := 5) dX5_ofLayer_2 ln_X5_98 ok_X5_requireRun (Nat.le_of_ble_eq_true rfl) (by decide) (by assumption) rfl rfl (s_reqRun hP2 hN2 hi) (fun h1 hq => ?_)
    obtain rfl := hq
    refine mj_aload_n (i := 0) (q := 6) dX5_ofLayer_5 rfl rfl rfl ?_
    refine mj_getr (q := 9) dX5_ofLayer_6 fl_X5_10 rfl rfl (by assumption) (by assumption) ?_
    refine mj_getr (q := 12) dX5_ofLayer_9 fl_X5_65 rfl rfl (by assumption) (by assumption) ?_
    refine mj_iload_n (i := 1) (q := 13) dX5_ofLayer_12 rfl rfl rfl ?_
    refine mj_aaldn (q := 14) dX5_ofLayer_13 rfl (by assumption) ⟨by omega, by omega⟩ (by assumption) ?_
    refine mj_getr (q := 17) dX5_ofLayer_14 fl_X5_169 rfl rfl (by assumption) (by assumption) ?_
    refine mj_astore (i := 4) (q := 19) dX5_ofLayer_17 rfl (by decide) rfl ?_
    dsimp only [List.set]
    refine mj_iload_n (i := 2) (q := 20) dX5_ofLayer_19 rfl rfl rfl ?_
    refine mj_if_lt (tgt := 32) (q := 23) dX5_ofLayer_20 (by decide) rfl (fun c_20 => absurd c_20 (nI_pos (by omega))) (fun c_20 => ?_)
    refine mj_iload_n (i := 2) (q := 24) dX5_ofLayer_23 rfl rfl rfl ?_
    refine mj_aload (i := 4) (q := 26) dX5_ofLayer_24 rfl rfl ?_
    refine mj_getfv (q := 29) dX5_ofLayer_26 fl_X5_176 rfl rfl (by assumption) (by assumption) ?_
    refine mj_icmp_lt (tgt := 42) (q := 32) dX5_ofLayer_29 (by decide) rfl (fun c_29 => ?_) (fun c_29 => absurd (nI_lt hl (by omega)) c_29)
    refine mj_iload_n (i := 3) (q := 43) dX5_ofLayer_42 rfl rfl rfl ?_
    refine mj_num1 (v := 0) (q := 44) rfl dX5_ofLayer_43 rfl ?_
    refine mj_num1 (v := 2) (q := 45) rfl dX5_ofLayer_44 rfl ?_
    refine mj_cS3v (K := m_X5_requireWithin) (q := 48) dX5_ofLayer_45 ln_X5_29 ok_X5_requireWithin (Nat.le_of_ble_eq_true rfl) (by decide) rfl (s_within (by decide) (by decide)) (fun h1 hq => ?_)
    obtain rfl := hq
    refine mj_iload_n (i := 3) (q := 49) dX5_ofLayer_48 rfl rfl rfl ?_
    refine mj_look (off := 35) (q := 84) dX5_ofLayer_49 (by decide) (by decide) (by decide) ?_
    refine mj_aload (i := 4) (q := 86) dX5_ofLayer_84 rfl rfl ?_
    refine mj_getr (q := 89) dX5_ofLayer_86 fl_X5_235 rfl rfl (by assumption) (by assumption) ?_
    refine mj_iload_n (i := 2) (q := 90) dX5_ofLayer_89 rfl rfl rfl ?_
    refine mj_ialdn (q := 91) dX5_ofLayer_90 rfl (by assumption) ⟨by omega, by omega⟩ ?_
    exact mj_ireturn dX5_ofLayer_91 ⟨_, rfl, rfl⟩ ⟨_, rfl, ⟨rfl, hR_i.1.2.2.2.2.2.1 l (by omega)⟩⟩
  | 2, _ =>
    refine mj_entry (by refine ⟨by decide +kernel, by decide, rfl, Nat.le_of_ble_eq_true rfl⟩) ?_
    show mj_W _ _ _ _ _ 0 [.ref x, .int (nI i), .int (nI l), .int (nI 2), .null] [] _
    refine mj_aload_n (i := 0) (q := 1) dX5_ofLayer_0 rfl rfl rfl ?_
    refine mj_iload_n (i := 1) (q := 2) dX5_ofLayer_1 rfl rfl rfl ?_
    refine mj_cV1v (K := m_X5_requireRun) (q := 5) dX5_ofLayer_2 ln_X5_98 ok_X5_requireRun (Nat.le_of_ble_eq_true rfl) (by decide) (by assumption) rfl rfl (s_reqRun hP2 hN2 hi) (fun h1 hq => ?_)
    obtain rfl := hq
    refine mj_aload_n (i := 0) (q := 6) dX5_ofLayer_5 rfl rfl rfl ?_
    refine mj_getr (q := 9) dX5_ofLayer_6 fl_X5_10 rfl rfl (by assumption) (by assumption) ?_
    refine mj_getr (q := 12) dX5_ofLayer_9 fl_X5_65 rfl rfl (by assumption) (by assumption) ?_
    refine mj_iload_n (i := 1) (q := 13) dX5_ofLayer_12 rfl rfl rfl ?_
    refine mj_aaldn (q := 14) dX5_ofLayer_13 rfl (by assumption) ⟨by omega, by omega⟩ (by assumption) ?_
    refine mj_getr (q := 17) dX5_ofLayer_14 fl_X5_169 rfl rfl (by assumption) (by assumption) ?_
    refine mj_astore (i := 4) (q := 19) dX5_ofLayer_17 rfl (by decide) rfl ?_
    dsimp only [List.set]
    refine mj_iload_n (i := 2) (q := 20) dX5_ofLayer_19 rfl rfl rfl ?_
    refine mj_if_lt (tgt := 32) (q := 23) dX5_ofLayer_20 (by decide) rfl (fun c_20 => absurd c_20 (nI_pos (by omega))) (fun c_20 => ?_)
    refine mj_iload_n (i := 2) (q := 24) dX5_ofLayer_23 rfl rfl rfl ?_
    refine mj_aload (i := 4) (q := 26) dX5_ofLayer_24 rfl rfl ?_
    refine mj_getfv (q := 29) dX5_ofLayer_26 fl_X5_176 rfl rfl (by assumption) (by assumption) ?_
    refine mj_icmp_lt (tgt := 42) (q := 32) dX5_ofLayer_29 (by decide) rfl (fun c_29 => ?_) (fun c_29 => absurd (nI_lt hl (by omega)) c_29)
    refine mj_iload_n (i := 3) (q := 43) dX5_ofLayer_42 rfl rfl rfl ?_
    refine mj_num1 (v := 0) (q := 44) rfl dX5_ofLayer_43 rfl ?_
    refine mj_num1 (v := 2) (q := 45) rfl dX5_ofLayer_44 rfl ?_
    refine mj_cS3v (K := m_X5_requireWithin) (q := 48) dX5_ofLayer_45 ln_X5_29 ok_X5_requireWithin (Nat.le_of_ble_eq_true rfl) (by decide) rfl (s_within (by decide) (by decide)) (fun h1 hq => ?_)
    obtain rfl := hq
    refine mj_iload_n (i := 3) (q := 49) dX5_ofLayer_48 rfl rfl rfl ?_
    refine mj_look (off := 43) (q := 92) dX5_ofLayer_49 (by decide) (by decide) (by decide) ?_
    refine mj_aload (i := 4) (q := 94) dX5_ofLayer_92 rfl rfl ?_
    refine mj_getr (q := 97) dX5_ofLayer_94 fl_X5_238 rfl rfl (by assumption) (by assumption) ?_
    refine mj_iload_n (i := 2) (q := 98) dX5_ofLayer_97 rfl rfl rfl ?_
    refine mj_ialdn (q := 99) dX5_ofLayer_98 rfl (by assumption) ⟨by omega, by omega⟩ ?_
    exact mj_ireturn dX5_ofLayer_99 ⟨_, rfl, rfl⟩ ⟨_, rfl, ⟨rfl, hR_i.1.2.2.2.2.2.2.1 l (by omega)⟩⟩
  | n9 + 3, h9 => exact absurd h9 (by omega)
set_option maxHeartbeats 4000000 in
set_option maxRecDepth 100000 in
theorem s_ofLift {d x m i w : Nat} {n : Nat} {K : Nat → mj_K} {f : Nat → Nat → Int32} {g : Nat → Nat → Option Nat} {y : mV} (hP : LPn K g x m) (hN : MN f m y) (hi : i < y.1) (hw : w < 6) : mj_Ci m_X5_ofLift (d + 2) [.ref x, .int (nI i), .int (nI w)] (n, K, f, g) (fun r h1 => h1 = (n, K, f, g) ∧ r = vOfLift y i w) := by
  have hP2 := hP
  have hN2 := hN
  obtain ⟨kx, hxm, gx0, gx1, gx2, gx3, hL, hLt, hLb, kw⟩ := hP
  have hL2 := hL
  obtain ⟨km, gm0, gm1, km1, km6, hLl, hLr⟩ := hL
  obtain ⟨lc, rc, mu, ls, rs⟩ := y
  obtain ⟨n1, n2, n3, n4, n5, n6, n7, n8⟩ := hN
  dsimp only at n1 n2 n3 n4 n5 n6 n7 n8
  have hi : i < lc := hi
  have hl_i : g (m + 1) i = some (m + 2 + i) := (hLl i (by omega)).1
  have kl_i : K (m + 2 + i) = (2, 0, 0) := (hLl i (by omega)).2
  have hN_i := n6 i (by omega)
  have l0_i : f (m + 2 + i) 0 = ls i 0 := hN_i.1 0 (by omega)
  have l1_i : f (m + 2 + i) 1 = ls i 1 := hN_i.1 1 (by omega)
  have l2_i : f (m + 2 + i) 2 = ls i 2 := hN_i.1 2 (by omega)
  have l3_i : f (m + 2 + i) 3 = ls i 3 := hN_i.1 3 (by omega)
  have l4_i : f (m + 2 + i) 4 = ls i 4 := hN_i.1 4 (by omega)
  match w, hw with
  | 0, _ =>
    refine mj_entry (by refine ⟨by decide +kernel, by decide, rfl, Nat.le_of_ble_eq_true rfl⟩) ?_
    show mj_W _ _ _ _ _ 0 [.ref x, .int (nI i), .int (nI 0), .null] [] _
    refine mj_aload_n (i := 0) (q := 1) dX5_ofLift_0 rfl rfl rfl ?_
    refine mj_iload_n (i := 1) (q := 2) dX5_ofLift_1 rfl rfl rfl ?_
    refine mj_cV1v (K := m_X5_requireLift) (q := 5) dX5_ofLift_2 ln_X5_56 ok_X5_requireLift (Nat.le_of_ble_eq_true rfl) (by decide) (by assumption) rfl rfl (s_reqLift hP2 hN2 hi) (fun h1 hq => ?_)
    obtain rfl := hq
    refine mj_iload_n (i := 2) (q := 6) dX5_ofLift_5 rfl rfl rfl ?_
    refine mj_num1 (v := 0) (q := 7) rfl dX5_ofLift_6 rfl ?_
    refine mj_num1 (v := 5) (q := 8) rfl dX5_ofLift_7 rfl ?_
    refine mj_cS3v (K := m_X5_requireWithin) (q := 11) dX5_ofLift_8 ln_X5_29 ok_X5_requireWithin (Nat.le_of_ble_eq_true rfl) (by decide) rfl (s_within (by decide) (by decide)) (fun h1 hq => ?_)
    obtain rfl := hq
    refine mj_aload_n (i := 0) (q := 12) dX5_ofLift_11 rfl rfl rfl ?_
    refine mj_getr (q := 15) dX5_ofLift_12 fl_X5_10 rfl rfl (by assumption) (by assumption) ?_
    refine mj_getr (q := 18) dX5_ofLift_15 fl_X5_44 rfl rfl (by assumption) (by assumption) ?_
    refine mj_iload_n (i := 1) (q := 19) dX5_ofLift_18 rfl rfl rfl ?_
    refine mj_aaldn (q := 20) dX5_ofLift_19 rfl (by assumption) ⟨by omega, by omega⟩ (by assumption) ?_
    refine mj_astore_n (i := 3) (q := 21) dX5_ofLift_20 rfl rfl (by decide) rfl ?_
    dsimp only [List.set]
    refine mj_iload_n (i := 2) (q := 22) dX5_ofLift_21 rfl rfl rfl ?_
    refine mj_tabIn (off := 34) (q := 56) dX5_ofLift_22 (by decide) (by decide) (by decide) (by decide) ?_
    refine mj_aload_n (i := 3) (q := 57) dX5_ofLift_56 rfl rfl rfl ?_
    refine mj_getfv (q := 60) dX5_ofLift_57 fl_X5_48 rfl rfl (by assumption) (by assumption) ?_
    exact mj_ireturn dX5_ofLift_60 ⟨_, rfl, rfl⟩ ⟨_, rfl, ⟨rfl, rfl⟩⟩
  | 1, _ =>
    refine mj_entry (by refine ⟨by decide +kernel, by decide, rfl, Nat.le_of_ble_eq_true rfl⟩) ?_
    show mj_W _ _ _ _ _ 0 [.ref x, .int (nI i), .int (nI 1), .null] [] _
    refine mj_aload_n (i := 0) (q := 1) dX5_ofLift_0 rfl rfl rfl ?_
    refine mj_iload_n (i := 1) (q := 2) dX5_ofLift_1 rfl rfl rfl ?_
    refine mj_cV1v (K := m_X5_requireLift) (q := 5) dX5_ofLift_2 ln_X5_56 ok_X5_requireLift (Nat.le_of_ble_eq_true rfl) (by decide) (by assumption) rfl rfl (s_reqLift hP2 hN2 hi) (fun h1 hq => ?_)
    obtain rfl := hq
    refine mj_iload_n (i := 2) (q := 6) dX5_ofLift_5 rfl rfl rfl ?_
    refine mj_num1 (v := 0) (q := 7) rfl dX5_ofLift_6 rfl ?_
    refine mj_num1 (v := 5) (q := 8) rfl dX5_ofLift_7 rfl ?_
    refine mj_cS3v (K := m_X5_requireWithin) (q := 11) dX5_ofLift_8 ln_X5_29 ok_X5_requireWithin (Nat.le_of_ble_eq_true rfl) (by decide) rfl (s_within (by decide) (by decide)) (fun h1 hq => ?_)
    obtain rfl := hq
    refine mj_aload_n (i := 0) (q := 12) dX5_ofLift_11 rfl rfl rfl ?_
    refine mj_getr (q := 15) dX5_ofLift_12 fl_X5_10 rfl rfl (by assumption) (by assumption) ?_
    refine mj_getr (q := 18) dX5_ofLift_15 fl_X5_44 rfl rfl (by assumption) (by assumption) ?_
    refine mj_iload_n (i := 1) (q := 19) dX5_ofLift_18 rfl rfl rfl ?_
    refine mj_aaldn (q := 20) dX5_ofLift_19 rfl (by assumption) ⟨by omega, by omega⟩ (by assumption) ?_
    refine mj_astore_n (i := 3) (q := 21) dX5_ofLift_20 rfl rfl (by decide) rfl ?_
    dsimp only [List.set]
    refine mj_iload_n (i := 2) (q := 22) dX5_ofLift_21 rfl rfl rfl ?_
    refine mj_tabIn (off := 39) (q := 61) dX5_ofLift_22 (by decide) (by decide) (by decide) (by decide) ?_
    refine mj_aload_n (i := 3) (q := 62) dX5_ofLift_61 rfl rfl rfl ?_
    refine mj_getfv (q := 65) dX5_ofLift_62 fl_X5_53 rfl rfl (by assumption) (by assumption) ?_
    exact mj_ireturn dX5_ofLift_65 ⟨_, rfl, rfl⟩ ⟨_, rfl, ⟨rfl, rfl⟩⟩
  | 2, _ =>
    refine mj_entry (by refine ⟨by decide +kernel, by decide, rfl, Nat.le_of_ble_eq_true rfl⟩) ?_
    show mj_W _ _ _ _ _ 0 [.ref x, .int (nI i), .int (nI 2), .null] [] _
    refine mj_aload_n (i := 0) (q := 1) dX5_ofLift_0 rfl rfl rfl ?_
    refine mj_iload_n (i := 1) (q := 2) dX5_ofLift_1 rfl rfl rfl ?_
    refine mj_cV1v (K := m_X5_requireLift) (q := 5) dX5_ofLift_2 ln_X5_56 ok_X5_requireLift (Nat.le_of_ble_eq_true rfl) (by decide) (by assumption) rfl rfl (s_reqLift hP2 hN2 hi) (fun h1 hq => ?_)
    obtain rfl := hq
    refine mj_iload_n (i := 2) (q := 6) dX5_ofLift_5 rfl rfl rfl ?_
    refine mj_num1 (v := 0) (q := 7) rfl dX5_ofLift_6 rfl ?_
    refine mj_num1 (v := 5) (q := 8) rfl dX5_ofLift_7 rfl ?_
    refine mj_cS3v (K := m_X5_requireWithin) (q := 11) dX5_ofLift_8 ln_X5_29 ok_X5_requireWithin (Nat.le_of_ble_eq_true rfl) (by decide) rfl (s_within (by decide) (by decide)) (fun h1 hq => ?_)
    obtain rfl := hq
    refine mj_aload_n (i := 0) (q := 12) dX5_ofLift_11 rfl rfl rfl ?_
    refine mj_getr (q := 15) dX5_ofLift_12 fl_X5_10 rfl rfl (by assumption) (by assumption) ?_
    refine mj_getr (q := 18) dX5_ofLift_15 fl_X5_44 rfl rfl (by assumption) (by assumption) ?_
    refine mj_iload_n (i := 1) (q := 19) dX5_ofLift_18 rfl rfl rfl ?_
    refine mj_aaldn (q := 20) dX5_ofLift_19 rfl (by assumption) ⟨by omega, by omega⟩ (by assumption) ?_
    refine mj_astore_n (i := 3) (q := 21) dX5_ofLift_20 rfl rfl (by decide) rfl ?_
    dsimp only [List.set]
    refine mj_iload_n (i := 2) (q := 22) dX5_ofLift_21 rfl rfl rfl ?_
    refine mj_tabIn (off := 44) (q := 66) dX5_ofLift_22 (by decide) (by decide) (by decide) (by decide) ?_
    refine mj_aload_n (i := 3) (q := 67) dX5_ofLift_66 rfl rfl rfl ?_
    refine mj_getfv (q := 70) dX5_ofLift_67 fl_X5_86 rfl rfl (by assumption) (by assumption) ?_
    refine mj_cS1i (K := m_X5_oneIf) (q := 73) dX5_ofLift_70 ln_X5_208 ok_X5_oneIf (Nat.le_of_ble_eq_true rfl) (by decide) rfl (s_oneIf) (fun r_70 h1 hq => ?_)
    obtain ⟨rfl, rfl⟩ := hq
    exact mj_ireturn dX5_ofLift_73 ⟨_, rfl, rfl⟩ ⟨_, rfl, ⟨rfl, rfl⟩⟩
  | 3, _ =>
    refine mj_entry (by refine ⟨by decide +kernel, by decide, rfl, Nat.le_of_ble_eq_true rfl⟩) ?_
    show mj_W _ _ _ _ _ 0 [.ref x, .int (nI i), .int (nI 3), .null] [] _
    refine mj_aload_n (i := 0) (q := 1) dX5_ofLift_0 rfl rfl rfl ?_
    refine mj_iload_n (i := 1) (q := 2) dX5_ofLift_1 rfl rfl rfl ?_
    refine mj_cV1v (K := m_X5_requireLift) (q := 5) dX5_ofLift_2 ln_X5_56 ok_X5_requireLift (Nat.le_of_ble_eq_true rfl) (by decide) (by assumption) rfl rfl (s_reqLift hP2 hN2 hi) (fun h1 hq => ?_)
    obtain rfl := hq
    refine mj_iload_n (i := 2) (q := 6) dX5_ofLift_5 rfl rfl rfl ?_
    refine mj_num1 (v := 0) (q := 7) rfl dX5_ofLift_6 rfl ?_
    refine mj_num1 (v := 5) (q := 8) rfl dX5_ofLift_7 rfl ?_
    refine mj_cS3v (K := m_X5_requireWithin) (q := 11) dX5_ofLift_8 ln_X5_29 ok_X5_requireWithin (Nat.le_of_ble_eq_true rfl) (by decide) rfl (s_within (by decide) (by decide)) (fun h1 hq => ?_)
    obtain rfl := hq
    refine mj_aload_n (i := 0) (q := 12) dX5_ofLift_11 rfl rfl rfl ?_
    refine mj_getr (q := 15) dX5_ofLift_12 fl_X5_10 rfl rfl (by assumption) (by assumption) ?_
    refine mj_getr (q := 18) dX5_ofLift_15 fl_X5_44 rfl rfl (by assumption) (by assumption) ?_
    refine mj_iload_n (i := 1) (q := 19) dX5_ofLift_18 rfl rfl rfl ?_
    refine mj_aaldn (q := 20) dX5_ofLift_19 rfl (by assumption) ⟨by omega, by omega⟩ (by assumption) ?_
    refine mj_astore_n (i := 3) (q := 21) dX5_ofLift_20 rfl rfl (by decide) rfl ?_
    dsimp only [List.set]
    refine mj_iload_n (i := 2) (q := 22) dX5_ofLift_21 rfl rfl rfl ?_
    refine mj_tabIn (off := 52) (q := 74) dX5_ofLift_22 (by decide) (by decide) (by decide) (by decide) ?_
    refine mj_aload_n (i := 3) (q := 75) dX5_ofLift_74 rfl rfl rfl ?_
    refine mj_getfv (q := 78) dX5_ofLift_75 fl_X5_95 rfl rfl (by assumption) (by assumption) ?_
    refine mj_cS1i (K := m_X5_oneIf) (q := 81) dX5_ofLift_78 ln_X5_208 ok_X5_oneIf (Nat.le_of_ble_eq_true rfl) (by decide) rfl (s_oneIf) (fun r_78 h1 hq => ?_)
    obtain ⟨rfl, rfl⟩ := hq
    exact mj_ireturn dX5_ofLift_81 ⟨_, rfl, rfl⟩ ⟨_, rfl, ⟨rfl, rfl⟩⟩
  | 4, _ =>
    refine mj_entry (by refine ⟨by decide +kernel, by decide, rfl, Nat.le_of_ble_eq_true rfl⟩) ?_
    show mj_W _ _ _ _ _ 0 [.ref x, .int (nI i), .int (nI 4), .null] [] _
    refine mj_aload_n (i := 0) (q := 1) dX5_ofLift_0 rfl rfl rfl ?_
    refine mj_iload_n (i := 1) (q := 2) dX5_ofLift_1 rfl rfl rfl ?_
    refine mj_cV1v (K := m_X5_requireLift) (q := 5) dX5_ofLift_2 ln_X5_56 ok_X5_requireLift (Nat.le_of_ble_eq_true rfl) (by decide) (by assumption) rfl rfl (s_reqLift hP2 hN2 hi) (fun h1 hq => ?_)
    obtain rfl := hq
    refine mj_iload_n (i := 2) (q := 6) dX5_ofLift_5 rfl rfl rfl ?_
    refine mj_num1 (v := 0) (q := 7) rfl dX5_ofLift_6 rfl ?_
    refine mj_num1 (v := 5) (q := 8) rfl dX5_ofLift_7 rfl ?_
    refine mj_cS3v (K := m_X5_requireWithin) (q := 11) dX5_ofLift_8 ln_X5_29 ok_X5_requireWithin (Nat.le_of_ble_eq_true rfl) (by decide) rfl (s_within (by decide) (by decide)) (fun h1 hq => ?_)
    obtain rfl := hq
    refine mj_aload_n (i := 0) (q := 12) dX5_ofLift_11 rfl rfl rfl ?_
    refine mj_getr (q := 15) dX5_ofLift_12 fl_X5_10 rfl rfl (by assumption) (by assumption) ?_
    refine mj_getr (q := 18) dX5_ofLift_15 fl_X5_44 rfl rfl (by assumption) (by assumption) ?_
    refine mj_iload_n (i := 1) (q := 19) dX5_ofLift_18 rfl rfl rfl ?_
    refine mj_aaldn (q := 20) dX5_ofLift_19 rfl (by assumption) ⟨by omega, by omega⟩ (by assumption) ?_
    refine mj_astore_n (i := 3) (q := 21) dX5_ofLift_20 rfl rfl (by decide) rfl ?_
    dsimp only [List.set]
    refine mj_iload_n (i := 2) (q := 22) dX5_ofLift_21 rfl rfl rfl ?_
    refine mj_tabIn (off := 60) (q := 82) dX5_ofLift_22 (by decide) (by decide) (by decide) (by decide) ?_
    refine mj_aload_n (i := 3) (q := 83) dX5_ofLift_82 rfl rfl rfl ?_
    refine mj_getfv (q := 86) dX5_ofLift_83 fl_X5_241 rfl rfl (by assumption) (by assumption) ?_
    exact mj_ireturn dX5_ofLift_86 ⟨_, rfl, rfl⟩ ⟨_, rfl, ⟨rfl, rfl⟩⟩
  | 5, _ =>
    refine mj_entry (by refine ⟨by decide +kernel, by decide, rfl, Nat.le_of_ble_eq_true rfl⟩) ?_
    show mj_W _ _ _ _ _ 0 [.ref x, .int (nI i), .int (nI 5), .null] [] _
    refine mj_aload_n (i := 0) (q := 1) dX5_ofLift_0 rfl rfl rfl ?_
    refine mj_iload_n (i := 1) (q := 2) dX5_ofLift_1 rfl rfl rfl ?_
    refine mj_cV1v (K := m_X5_requireLift) (q := 5) dX5_ofLift_2 ln_X5_56 ok_X5_requireLift (Nat.le_of_ble_eq_true rfl) (by decide) (by assumption) rfl rfl (s_reqLift hP2 hN2 hi) (fun h1 hq => ?_)
    obtain rfl := hq
    refine mj_iload_n (i := 2) (q := 6) dX5_ofLift_5 rfl rfl rfl ?_
    refine mj_num1 (v := 0) (q := 7) rfl dX5_ofLift_6 rfl ?_
    refine mj_num1 (v := 5) (q := 8) rfl dX5_ofLift_7 rfl ?_
    refine mj_cS3v (K := m_X5_requireWithin) (q := 11) dX5_ofLift_8 ln_X5_29 ok_X5_requireWithin (Nat.le_of_ble_eq_true rfl) (by decide) rfl (s_within (by decide) (by decide)) (fun h1 hq => ?_)
    obtain rfl := hq
    refine mj_aload_n (i := 0) (q := 12) dX5_ofLift_11 rfl rfl rfl ?_
    refine mj_getr (q := 15) dX5_ofLift_12 fl_X5_10 rfl rfl (by assumption) (by assumption) ?_
    refine mj_getr (q := 18) dX5_ofLift_15 fl_X5_44 rfl rfl (by assumption) (by assumption) ?_
    refine mj_iload_n (i := 1) (q := 19) dX5_ofLift_18 rfl rfl rfl ?_
    refine mj_aaldn (q := 20) dX5_ofLift_19 rfl (by assumption) ⟨by omega, by omega⟩ (by assumption) ?_
    refine mj_astore_n (i := 3) (q := 21) dX5_ofLift_20 rfl rfl (by decide) rfl ?_
    dsimp only [List.set]
    refine mj_iload_n (i := 2) (q := 22) dX5_ofLift_21 rfl rfl rfl ?_
    refine mj_tabOut (q := 87) dX5_ofLift_22 (Or.inr (by decide)) (by decide) ?_
    refine mj_aload_n (i := 0) (q := 88) dX5_ofLift_87 rfl rfl rfl ?_
    refine mj_getr (q := 91) dX5_ofLift_88 fl_X5_10 rfl rfl (by assumption) (by assumption) ?_
    refine mj_iload_n (i := 1) (q := 92) dX5_ofLift_91 rfl rfl rfl ?_
    refine mj_cV1i (K := m_X1_openRunsOf) (q := 95) dX5_ofLift_92 ln_X5_244 ok_X1_openRunsOf (Nat.le_of_ble_eq_true rfl) (by decide) (by assumption) rfl rfl (s_openRunsOf hL2 hN2) (fun r_92 h1 hq => ?_)
    obtain ⟨rfl, rfl⟩ := hq
    exact mj_ireturn dX5_ofLift_95 ⟨_, rfl, rfl⟩ ⟨_, rfl, ⟨rfl, rfl⟩⟩
  | n9 + 6, h9 => exact absurd h9 (by omega)
set_option maxHeartbeats 4000000 in
set_option maxRecDepth 100000 in
theorem s_many {d x m w : Nat} {n : Nat} {K : Nat → mj_K} {f : Nat → Nat → Int32} {g : Nat → Nat → Option Nat} {y : mV} (hP : LPn K g x m) (hN : MN f m y) (hw : w < 15) : mj_Ci m_X5_many (d + 4) [.ref x, .int (nI w)] (n, K, f, g) (fun r h1 => h1 = (n, K, f, g) ∧ r = vMany y w) := by
  have hP2 := hP
  have hN2 := hN
  obtain ⟨kx, hxm, gx0, gx1, gx2, gx3, hL, hLt, hLb, kw⟩ := hP
  have hL2 := hL
  obtain ⟨km, gm0, gm1, km1, km6, hLl, hLr⟩ := hL
  obtain ⟨lc, rc, mu, ls, rs⟩ := y
  obtain ⟨n1, n2, n3, n4, n5, n6, n7, n8⟩ := hN
  dsimp only at n1 n2 n3 n4 n5 n6 n7 n8
  have u4 : f m 4 = mu 4 := n5 4 (by omega) (by omega)
  have u5 : f m 5 = mu 5 := n5 5 (by omega) (by omega)
  have u6 : f m 6 = mu 6 := n5 6 (by omega) (by omega)
  have u7 : f m 7 = mu 7 := n5 7 (by omega) (by omega)
  have u8 : f m 8 = mu 8 := n5 8 (by omega) (by omega)
  have u9 : f m 9 = mu 9 := n5 9 (by omega) (by omega)
  have u10 : f m 10 = mu 10 := n5 10 (by omega) (by omega)
  have u11 : f m 11 = mu 11 := n5 11 (by omega) (by omega)
  have u12 : f m 12 = mu 12 := n5 12 (by omega) (by omega)
  have u13 : f m 13 = mu 13 := n5 13 (by omega) (by omega)
  have u14 : f m 14 = mu 14 := n5 14 (by omega) (by omega)
  have u15 : f m 15 = mu 15 := n5 15 (by omega) (by omega)
  match w, hw with
  | 0, _ =>
    refine mj_entry (by refine ⟨by decide +kernel, by decide, rfl, Nat.le_of_ble_eq_true rfl⟩) ?_
    show mj_W _ _ _ _ _ 0 [.ref x, .int (nI 0)] [] _
    refine mj_iload_n (i := 1) (q := 1) dX5_many_0 rfl rfl rfl ?_
    refine mj_num1 (v := 0) (q := 2) rfl dX5_many_1 rfl ?_
    refine mj_num2 (v := 14) (q := 4) (by decide) dX5_many_2 rfl ?_
    refine mj_cS3v (K := m_X5_requireWithin) (q := 7) dX5_many_4 ln_X5_29 ok_X5_requireWithin (Nat.le_of_ble_eq_true rfl) (by decide) rfl (s_within (by decide) (by decide)) (fun h1 hq => ?_)
    obtain rfl := hq
    refine mj_iload_n (i := 1) (q := 8) dX5_many_7 rfl rfl rfl ?_
    refine mj_tabIn (off := 72) (q := 80) dX5_many_8 (by decide) (by decide) (by decide) (by decide) ?_
    refine mj_aload_n (i := 0) (q := 81) dX5_many_80 rfl rfl rfl ?_
    refine mj_getr (q := 84) dX5_many_81 fl_X5_10 rfl rfl (by assumption) (by assumption) ?_
    refine mj_getfv (q := 87) dX5_many_84 fl_X5_116 rfl rfl (by assumption) (by assumption) ?_
    exact mj_ireturn dX5_many_87 ⟨_, rfl, rfl⟩ ⟨_, rfl, ⟨rfl, rfl⟩⟩
  | 1, _ =>
    refine mj_entry (by refine ⟨by decide +kernel, by decide, rfl, Nat.le_of_ble_eq_true rfl⟩) ?_
    show mj_W _ _ _ _ _ 0 [.ref x, .int (nI 1)] [] _
    refine mj_iload_n (i := 1) (q := 1) dX5_many_0 rfl rfl rfl ?_
    refine mj_num1 (v := 0) (q := 2) rfl dX5_many_1 rfl ?_
    refine mj_num2 (v := 14) (q := 4) (by decide) dX5_many_2 rfl ?_
    refine mj_cS3v (K := m_X5_requireWithin) (q := 7) dX5_many_4 ln_X5_29 ok_X5_requireWithin (Nat.le_of_ble_eq_true rfl) (by decide) rfl (s_within (by decide) (by decide)) (fun h1 hq => ?_)
    obtain rfl := hq
    refine mj_iload_n (i := 1) (q := 8) dX5_many_7 rfl rfl rfl ?_
    refine mj_tabIn (off := 80) (q := 88) dX5_many_8 (by decide) (by decide) (by decide) (by decide) ?_
    refine mj_aload_n (i := 0) (q := 89) dX5_many_88 rfl rfl rfl ?_
    refine mj_getr (q := 92) dX5_many_89 fl_X5_10 rfl rfl (by assumption) (by assumption) ?_
    refine mj_getfv (q := 95) dX5_many_92 fl_X5_33 rfl rfl (by assumption) (by assumption) ?_
    exact mj_ireturn dX5_many_95 ⟨_, rfl, rfl⟩ ⟨_, rfl, ⟨rfl, rfl⟩⟩
  | 2, _ =>
    refine mj_entry (by refine ⟨by decide +kernel, by decide, rfl, Nat.le_of_ble_eq_true rfl⟩) ?_
    show mj_W _ _ _ _ _ 0 [.ref x, .int (nI 2)] [] _
    refine mj_iload_n (i := 1) (q := 1) dX5_many_0 rfl rfl rfl ?_
    refine mj_num1 (v := 0) (q := 2) rfl dX5_many_1 rfl ?_
    refine mj_num2 (v := 14) (q := 4) (by decide) dX5_many_2 rfl ?_
    refine mj_cS3v (K := m_X5_requireWithin) (q := 7) dX5_many_4 ln_X5_29 ok_X5_requireWithin (Nat.le_of_ble_eq_true rfl) (by decide) rfl (s_within (by decide) (by decide)) (fun h1 hq => ?_)
    obtain rfl := hq
    refine mj_iload_n (i := 1) (q := 8) dX5_many_7 rfl rfl rfl ?_
    refine mj_tabIn (off := 88) (q := 96) dX5_many_8 (by decide) (by decide) (by decide) (by decide) ?_
    refine mj_aload_n (i := 0) (q := 97) dX5_many_96 rfl rfl rfl ?_
    refine mj_getr (q := 100) dX5_many_97 fl_X5_10 rfl rfl (by assumption) (by assumption) ?_
    refine mj_getfv (q := 103) dX5_many_100 fl_X5_60 rfl rfl (by assumption) (by assumption) ?_
    exact mj_ireturn dX5_many_103 ⟨_, rfl, rfl⟩ ⟨_, rfl, ⟨rfl, rfl⟩⟩
  | 3, _ =>
    refine mj_entry (by refine ⟨by decide +kernel, by decide, rfl, Nat.le_of_ble_eq_true rfl⟩) ?_
    show mj_W _ _ _ _ _ 0 [.ref x, .int (nI 3)] [] _
    refine mj_iload_n (i := 1) (q := 1) dX5_many_0 rfl rfl rfl ?_
    refine mj_num1 (v := 0) (q := 2) rfl dX5_many_1 rfl ?_
    refine mj_num2 (v := 14) (q := 4) (by decide) dX5_many_2 rfl ?_
    refine mj_cS3v (K := m_X5_requireWithin) (q := 7) dX5_many_4 ln_X5_29 ok_X5_requireWithin (Nat.le_of_ble_eq_true rfl) (by decide) rfl (s_within (by decide) (by decide)) (fun h1 hq => ?_)
    obtain rfl := hq
    refine mj_iload_n (i := 1) (q := 8) dX5_many_7 rfl rfl rfl ?_
    refine mj_tabIn (off := 96) (q := 104) dX5_many_8 (by decide) (by decide) (by decide) (by decide) ?_
    refine mj_aload_n (i := 0) (q := 105) dX5_many_104 rfl rfl rfl ?_
    refine mj_getr (q := 108) dX5_many_105 fl_X5_10 rfl rfl (by assumption) (by assumption) ?_
    refine mj_cV0i (K := m_X1_openRuns) (q := 111) dX5_many_108 ln_X5_248 ok_X1_openRuns (Nat.le_of_ble_eq_true rfl) (by decide) (by assumption) rfl rfl (s_openRuns hL2 hN2) (fun r_108 h1 hq => ?_)
    obtain ⟨rfl, rfl⟩ := hq
    exact mj_ireturn dX5_many_111 ⟨_, rfl, rfl⟩ ⟨_, rfl, ⟨rfl, rfl⟩⟩
  | 4, _ =>
    refine mj_entry (by refine ⟨by decide +kernel, by decide, rfl, Nat.le_of_ble_eq_true rfl⟩) ?_
    show mj_W _ _ _ _ _ 0 [.ref x, .int (nI 4)] [] _
    refine mj_iload_n (i := 1) (q := 1) dX5_many_0 rfl rfl rfl ?_
    refine mj_num1 (v := 0) (q := 2) rfl dX5_many_1 rfl ?_
    refine mj_num2 (v := 14) (q := 4) (by decide) dX5_many_2 rfl ?_
    refine mj_cS3v (K := m_X5_requireWithin) (q := 7) dX5_many_4 ln_X5_29 ok_X5_requireWithin (Nat.le_of_ble_eq_true rfl) (by decide) rfl (s_within (by decide) (by decide)) (fun h1 hq => ?_)
    obtain rfl := hq
    refine mj_iload_n (i := 1) (q := 8) dX5_many_7 rfl rfl rfl ?_
    refine mj_tabIn (off := 104) (q := 112) dX5_many_8 (by decide) (by decide) (by decide) (by decide) ?_
    refine mj_aload_n (i := 0) (q := 113) dX5_many_112 rfl rfl rfl ?_
    refine mj_getr (q := 116) dX5_many_113 fl_X5_10 rfl rfl (by assumption) (by assumption) ?_
    refine mj_getfv (q := 119) dX5_many_116 fl_X5_104 rfl rfl (by assumption) (by assumption) ?_
    exact mj_ireturn dX5_many_119 ⟨_, rfl, rfl⟩ ⟨_, rfl, ⟨rfl, rfl⟩⟩
  | 5, _ =>
    refine mj_entry (by refine ⟨by decide +kernel, by decide, rfl, Nat.le_of_ble_eq_true rfl⟩) ?_
    show mj_W _ _ _ _ _ 0 [.ref x, .int (nI 5)] [] _
    refine mj_iload_n (i := 1) (q := 1) dX5_many_0 rfl rfl rfl ?_
    refine mj_num1 (v := 0) (q := 2) rfl dX5_many_1 rfl ?_
    refine mj_num2 (v := 14) (q := 4) (by decide) dX5_many_2 rfl ?_
    refine mj_cS3v (K := m_X5_requireWithin) (q := 7) dX5_many_4 ln_X5_29 ok_X5_requireWithin (Nat.le_of_ble_eq_true rfl) (by decide) rfl (s_within (by decide) (by decide)) (fun h1 hq => ?_)
    obtain rfl := hq
    refine mj_iload_n (i := 1) (q := 8) dX5_many_7 rfl rfl rfl ?_
    refine mj_tabIn (off := 112) (q := 120) dX5_many_8 (by decide) (by decide) (by decide) (by decide) ?_
    refine mj_aload_n (i := 0) (q := 121) dX5_many_120 rfl rfl rfl ?_
    refine mj_getr (q := 124) dX5_many_121 fl_X5_10 rfl rfl (by assumption) (by assumption) ?_
    refine mj_getfv (q := 127) dX5_many_124 fl_X5_135 rfl rfl (by assumption) (by assumption) ?_
    exact mj_ireturn dX5_many_127 ⟨_, rfl, rfl⟩ ⟨_, rfl, ⟨rfl, rfl⟩⟩
  | 6, _ =>
    refine mj_entry (by refine ⟨by decide +kernel, by decide, rfl, Nat.le_of_ble_eq_true rfl⟩) ?_
    show mj_W _ _ _ _ _ 0 [.ref x, .int (nI 6)] [] _
    refine mj_iload_n (i := 1) (q := 1) dX5_many_0 rfl rfl rfl ?_
    refine mj_num1 (v := 0) (q := 2) rfl dX5_many_1 rfl ?_
    refine mj_num2 (v := 14) (q := 4) (by decide) dX5_many_2 rfl ?_
    refine mj_cS3v (K := m_X5_requireWithin) (q := 7) dX5_many_4 ln_X5_29 ok_X5_requireWithin (Nat.le_of_ble_eq_true rfl) (by decide) rfl (s_within (by decide) (by decide)) (fun h1 hq => ?_)
    obtain rfl := hq
    refine mj_iload_n (i := 1) (q := 8) dX5_many_7 rfl rfl rfl ?_
    refine mj_tabIn (off := 120) (q := 128) dX5_many_8 (by decide) (by decide) (by decide) (by decide) ?_
    refine mj_aload_n (i := 0) (q := 129) dX5_many_128 rfl rfl rfl ?_
    refine mj_getr (q := 132) dX5_many_129 fl_X5_10 rfl rfl (by assumption) (by assumption) ?_
    refine mj_getfv (q := 135) dX5_many_132 fl_X5_183 rfl rfl (by assumption) (by assumption) ?_
    exact mj_ireturn dX5_many_135 ⟨_, rfl, rfl⟩ ⟨_, rfl, ⟨rfl, rfl⟩⟩
  | 7, _ =>
    refine mj_entry (by refine ⟨by decide +kernel, by decide, rfl, Nat.le_of_ble_eq_true rfl⟩) ?_
    show mj_W _ _ _ _ _ 0 [.ref x, .int (nI 7)] [] _
    refine mj_iload_n (i := 1) (q := 1) dX5_many_0 rfl rfl rfl ?_
    refine mj_num1 (v := 0) (q := 2) rfl dX5_many_1 rfl ?_
    refine mj_num2 (v := 14) (q := 4) (by decide) dX5_many_2 rfl ?_
    refine mj_cS3v (K := m_X5_requireWithin) (q := 7) dX5_many_4 ln_X5_29 ok_X5_requireWithin (Nat.le_of_ble_eq_true rfl) (by decide) rfl (s_within (by decide) (by decide)) (fun h1 hq => ?_)
    obtain rfl := hq
    refine mj_iload_n (i := 1) (q := 8) dX5_many_7 rfl rfl rfl ?_
    refine mj_tabIn (off := 128) (q := 136) dX5_many_8 (by decide) (by decide) (by decide) (by decide) ?_
    refine mj_aload_n (i := 0) (q := 137) dX5_many_136 rfl rfl rfl ?_
    refine mj_getr (q := 140) dX5_many_137 fl_X5_10 rfl rfl (by assumption) (by assumption) ?_
    refine mj_getfv (q := 143) dX5_many_140 fl_X5_113 rfl rfl (by assumption) (by assumption) ?_
    exact mj_ireturn dX5_many_143 ⟨_, rfl, rfl⟩ ⟨_, rfl, ⟨rfl, rfl⟩⟩
  | 8, _ =>
    refine mj_entry (by refine ⟨by decide +kernel, by decide, rfl, Nat.le_of_ble_eq_true rfl⟩) ?_
    show mj_W _ _ _ _ _ 0 [.ref x, .int (nI 8)] [] _
    refine mj_iload_n (i := 1) (q := 1) dX5_many_0 rfl rfl rfl ?_
    refine mj_num1 (v := 0) (q := 2) rfl dX5_many_1 rfl ?_
    refine mj_num2 (v := 14) (q := 4) (by decide) dX5_many_2 rfl ?_
    refine mj_cS3v (K := m_X5_requireWithin) (q := 7) dX5_many_4 ln_X5_29 ok_X5_requireWithin (Nat.le_of_ble_eq_true rfl) (by decide) rfl (s_within (by decide) (by decide)) (fun h1 hq => ?_)
    obtain rfl := hq
    refine mj_iload_n (i := 1) (q := 8) dX5_many_7 rfl rfl rfl ?_
    refine mj_tabIn (off := 136) (q := 144) dX5_many_8 (by decide) (by decide) (by decide) (by decide) ?_
    refine mj_aload_n (i := 0) (q := 145) dX5_many_144 rfl rfl rfl ?_
    refine mj_getr (q := 148) dX5_many_145 fl_X5_10 rfl rfl (by assumption) (by assumption) ?_
    refine mj_getfv (q := 151) dX5_many_148 fl_X5_121 rfl rfl (by assumption) (by assumption) ?_
    exact mj_ireturn dX5_many_151 ⟨_, rfl, rfl⟩ ⟨_, rfl, ⟨rfl, rfl⟩⟩
  | 9, _ =>
    refine mj_entry (by refine ⟨by decide +kernel, by decide, rfl, Nat.le_of_ble_eq_true rfl⟩) ?_
    show mj_W _ _ _ _ _ 0 [.ref x, .int (nI 9)] [] _
    refine mj_iload_n (i := 1) (q := 1) dX5_many_0 rfl rfl rfl ?_
    refine mj_num1 (v := 0) (q := 2) rfl dX5_many_1 rfl ?_
    refine mj_num2 (v := 14) (q := 4) (by decide) dX5_many_2 rfl ?_
    refine mj_cS3v (K := m_X5_requireWithin) (q := 7) dX5_many_4 ln_X5_29 ok_X5_requireWithin (Nat.le_of_ble_eq_true rfl) (by decide) rfl (s_within (by decide) (by decide)) (fun h1 hq => ?_)
    obtain rfl := hq
    refine mj_iload_n (i := 1) (q := 8) dX5_many_7 rfl rfl rfl ?_
    refine mj_tabIn (off := 144) (q := 152) dX5_many_8 (by decide) (by decide) (by decide) (by decide) ?_
    refine mj_aload_n (i := 0) (q := 153) dX5_many_152 rfl rfl rfl ?_
    refine mj_getr (q := 156) dX5_many_153 fl_X5_10 rfl rfl (by assumption) (by assumption) ?_
    refine mj_getfv (q := 159) dX5_many_156 fl_X5_251 rfl rfl (by assumption) (by assumption) ?_
    exact mj_ireturn dX5_many_159 ⟨_, rfl, rfl⟩ ⟨_, rfl, ⟨rfl, rfl⟩⟩
  | 10, _ =>
    refine mj_entry (by refine ⟨by decide +kernel, by decide, rfl, Nat.le_of_ble_eq_true rfl⟩) ?_
    show mj_W _ _ _ _ _ 0 [.ref x, .int (nI 10)] [] _
    refine mj_iload_n (i := 1) (q := 1) dX5_many_0 rfl rfl rfl ?_
    refine mj_num1 (v := 0) (q := 2) rfl dX5_many_1 rfl ?_
    refine mj_num2 (v := 14) (q := 4) (by decide) dX5_many_2 rfl ?_
    refine mj_cS3v (K := m_X5_requireWithin) (q := 7) dX5_many_4 ln_X5_29 ok_X5_requireWithin (Nat.le_of_ble_eq_true rfl) (by decide) rfl (s_within (by decide) (by decide)) (fun h1 hq => ?_)
    obtain rfl := hq
    refine mj_iload_n (i := 1) (q := 8) dX5_many_7 rfl rfl rfl ?_
    refine mj_tabIn (off := 152) (q := 160) dX5_many_8 (by decide) (by decide) (by decide) (by decide) ?_
    refine mj_aload_n (i := 0) (q := 161) dX5_many_160 rfl rfl rfl ?_
    refine mj_getr (q := 164) dX5_many_161 fl_X5_10 rfl rfl (by assumption) (by assumption) ?_
    refine mj_getfv (q := 167) dX5_many_164 fl_X5_254 rfl rfl (by assumption) (by assumption) ?_
    exact mj_ireturn dX5_many_167 ⟨_, rfl, rfl⟩ ⟨_, rfl, ⟨rfl, rfl⟩⟩
  | 11, _ =>
    refine mj_entry (by refine ⟨by decide +kernel, by decide, rfl, Nat.le_of_ble_eq_true rfl⟩) ?_
    show mj_W _ _ _ _ _ 0 [.ref x, .int (nI 11)] [] _
    refine mj_iload_n (i := 1) (q := 1) dX5_many_0 rfl rfl rfl ?_
    refine mj_num1 (v := 0) (q := 2) rfl dX5_many_1 rfl ?_
    refine mj_num2 (v := 14) (q := 4) (by decide) dX5_many_2 rfl ?_
    refine mj_cS3v (K := m_X5_requireWithin) (q := 7) dX5_many_4 ln_X5_29 ok_X5_requireWithin (Nat.le_of_ble_eq_true rfl) (by decide) rfl (s_within (by decide) (by decide)) (fun h1 hq => ?_)
    obtain rfl := hq
    refine mj_iload_n (i := 1) (q := 8) dX5_many_7 rfl rfl rfl ?_
    refine mj_tabIn (off := 160) (q := 168) dX5_many_8 (by decide) (by decide) (by decide) (by decide) ?_
    refine mj_aload_n (i := 0) (q := 169) dX5_many_168 rfl rfl rfl ?_
    refine mj_getr (q := 172) dX5_many_169 fl_X5_10 rfl rfl (by assumption) (by assumption) ?_
    refine mj_getfv (q := 175) dX5_many_172 fl_X5_257 rfl rfl (by assumption) (by assumption) ?_
    exact mj_ireturn dX5_many_175 ⟨_, rfl, rfl⟩ ⟨_, rfl, ⟨rfl, rfl⟩⟩
  | 12, _ =>
    refine mj_entry (by refine ⟨by decide +kernel, by decide, rfl, Nat.le_of_ble_eq_true rfl⟩) ?_
    show mj_W _ _ _ _ _ 0 [.ref x, .int (nI 12)] [] _
    refine mj_iload_n (i := 1) (q := 1) dX5_many_0 rfl rfl rfl ?_
    refine mj_num1 (v := 0) (q := 2) rfl dX5_many_1 rfl ?_
    refine mj_num2 (v := 14) (q := 4) (by decide) dX5_many_2 rfl ?_
    refine mj_cS3v (K := m_X5_requireWithin) (q := 7) dX5_many_4 ln_X5_29 ok_X5_requireWithin (Nat.le_of_ble_eq_true rfl) (by decide) rfl (s_within (by decide) (by decide)) (fun h1 hq => ?_)
    obtain rfl := hq
    refine mj_iload_n (i := 1) (q := 8) dX5_many_7 rfl rfl rfl ?_
    refine mj_tabIn (off := 168) (q := 176) dX5_many_8 (by decide) (by decide) (by decide) (by decide) ?_
    refine mj_aload_n (i := 0) (q := 177) dX5_many_176 rfl rfl rfl ?_
    refine mj_getr (q := 180) dX5_many_177 fl_X5_10 rfl rfl (by assumption) (by assumption) ?_
    refine mj_getfv (q := 183) dX5_many_180 fl_X5_260 rfl rfl (by assumption) (by assumption) ?_
    exact mj_ireturn dX5_many_183 ⟨_, rfl, rfl⟩ ⟨_, rfl, ⟨rfl, rfl⟩⟩
  | 13, _ =>
    refine mj_entry (by refine ⟨by decide +kernel, by decide, rfl, Nat.le_of_ble_eq_true rfl⟩) ?_
    show mj_W _ _ _ _ _ 0 [.ref x, .int (nI 13)] [] _
    refine mj_iload_n (i := 1) (q := 1) dX5_many_0 rfl rfl rfl ?_
    refine mj_num1 (v := 0) (q := 2) rfl dX5_many_1 rfl ?_
    refine mj_num2 (v := 14) (q := 4) (by decide) dX5_many_2 rfl ?_
    refine mj_cS3v (K := m_X5_requireWithin) (q := 7) dX5_many_4 ln_X5_29 ok_X5_requireWithin (Nat.le_of_ble_eq_true rfl) (by decide) rfl (s_within (by decide) (by decide)) (fun h1 hq => ?_)
    obtain rfl := hq
    refine mj_iload_n (i := 1) (q := 8) dX5_many_7 rfl rfl rfl ?_
    refine mj_tabIn (off := 176) (q := 184) dX5_many_8 (by decide) (by decide) (by decide) (by decide) ?_
    refine mj_aload_n (i := 0) (q := 185) dX5_many_184 rfl rfl rfl ?_
    refine mj_getr (q := 188) dX5_many_185 fl_X5_10 rfl rfl (by assumption) (by assumption) ?_
    refine mj_getfv (q := 191) dX5_many_188 fl_X5_261 rfl rfl (by assumption) (by assumption) ?_
    exact mj_ireturn dX5_many_191 ⟨_, rfl, rfl⟩ ⟨_, rfl, ⟨rfl, rfl⟩⟩
  | 14, _ =>
    refine mj_entry (by refine ⟨by decide +kernel, by decide, rfl, Nat.le_of_ble_eq_true rfl⟩) ?_
    show mj_W _ _ _ _ _ 0 [.ref x, .int (nI 14)] [] _
    refine mj_iload_n (i := 1) (q := 1) dX5_many_0 rfl rfl rfl ?_
    refine mj_num1 (v := 0) (q := 2) rfl dX5_many_1 rfl ?_
    refine mj_num2 (v := 14) (q := 4) (by decide) dX5_many_2 rfl ?_
    refine mj_cS3v (K := m_X5_requireWithin) (q := 7) dX5_many_4 ln_X5_29 ok_X5_requireWithin (Nat.le_of_ble_eq_true rfl) (by decide) rfl (s_within (by decide) (by decide)) (fun h1 hq => ?_)
    obtain rfl := hq
    refine mj_iload_n (i := 1) (q := 8) dX5_many_7 rfl rfl rfl ?_
    refine mj_tabOut (q := 192) dX5_many_8 (Or.inr (by decide)) (by decide) ?_
    refine mj_aload_n (i := 0) (q := 193) dX5_many_192 rfl rfl rfl ?_
    refine mj_getr (q := 196) dX5_many_193 fl_X5_10 rfl rfl (by assumption) (by assumption) ?_
    refine mj_cV0i (K := m_X1_depthByArea) (q := 199) dX5_many_196 ln_X5_264 ok_X1_depthByArea (Nat.le_of_ble_eq_true rfl) (by decide) (by assumption) rfl rfl (s_depthByArea hL2 hN2) (fun r_196 h1 hq => ?_)
    obtain ⟨rfl, rfl⟩ := hq
    exact mj_ireturn dX5_many_199 ⟨_, rfl, rfl⟩ ⟨_, rfl, ⟨rfl, rfl⟩⟩
  | n9 + 15, h9 => exact absurd h9 (by omega)
