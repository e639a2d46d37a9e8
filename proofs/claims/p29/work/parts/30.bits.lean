/-! FACTS: the bits of couldOpen -/
theorem mj_or1 (p : Int32) : (p &&& 1) ||| 1 = 1 := by
  apply Int32.toBitVec_inj.mp
  show (p.toBitVec &&& (1 : Int32).toBitVec) ||| (1 : Int32).toBitVec = (1 : Int32).toBitVec
  generalize p.toBitVec = a
  generalize (1 : Int32).toBitVec = b
  apply BitVec.eq_of_getLsbD_eq
  intro i hi
  rw [BitVec.getLsbD_or, BitVec.getLsbD_and]
  cases b.getLsbD i <;> simp
theorem mj_or0 (p : Int32) : (p &&& 1) ||| 0 = p &&& 1 := by
  apply Int32.toBitVec_inj.mp
  show (p.toBitVec &&& (1 : Int32).toBitVec) ||| (0 : Int32).toBitVec = (p.toBitVec &&& (1 : Int32).toBitVec)
  rw [show (0 : Int32).toBitVec = 0#32 from rfl, BitVec.or_zero]
theorem mj_oran (p r : Int32) : (p ||| r) &&& 1 = (p &&& 1) ||| (r &&& 1) := by
  apply Int32.toBitVec_inj.mp
  show (p.toBitVec ||| r.toBitVec) &&& (1 : Int32).toBitVec = (p.toBitVec &&& (1 : Int32).toBitVec) ||| (r.toBitVec &&& (1 : Int32).toBitVec)
  generalize (1 : Int32).toBitVec = b
  apply BitVec.eq_of_getLsbD_eq
  intro i hi
  rw [BitVec.getLsbD_and, BitVec.getLsbD_or, BitVec.getLsbD_or, BitVec.getLsbD_and, BitVec.getLsbD_and]
  cases b.getLsbD i <;> simp
theorem mj_orsh (p r s : Int32) : (p ||| r) >>> s = (p >>> s) ||| (r >>> s) := by
  apply Int32.toBitVec_inj.mp
  show (p.toBitVec ||| r.toBitVec).sshiftRight' (s.toBitVec.smod 32) = p.toBitVec.sshiftRight' (s.toBitVec.smod 32) ||| r.toBitVec.sshiftRight' (s.toBitVec.smod 32)
  generalize s.toBitVec.smod 32 = b
  rw [BitVec.sshiftRight_eq', BitVec.sshiftRight_eq', BitVec.sshiftRight_eq', BitVec.sshiftRight_or_distrib]
theorem mj_bit1 : ∀ n, n < 8 → ∀ k, k < 8 → (((1 : Int32) <<< (nI n &&& 31)) >>> (nI k &&& 31)) &&& 1 = if k = n then 1 else 0 := by decide +kernel
theorem mj_bit0 : ∀ k, k < 8 → ((0 : Int32) >>> (nI k &&& 31)) &&& 1 = 0 := by decide +kernel
theorem mj_bit {a : Int32} {n k : Nat} (hn : n < 8) (hk : k < 8) : ((a ||| ((1 : Int32) <<< (nI n &&& 31))) >>> (nI k &&& 31)) &&& 1 = if k = n then 1 else (a >>> (nI k &&& 31)) &&& 1 := by
  rw [mj_orsh, mj_oran, mj_bit1 n hn k hk]
  split
  · exact mj_or1 _
  · exact mj_or0 _
theorem vCouldN_bit {mu : Nat → Int32} {ls : Nat → Nat → Int32} {rs : Nat → rV} {k : Nat} (hk : k < 8) : ∀ n, n ≤ 8 → (vCouldN mu ls rs n >>> (nI k &&& 31)) &&& 1 = if k < n ∧ vCould mu ls k (rs k) = true then 1 else 0
  | 0, _ => by rw [if_neg (fun h => absurd h.1 (Nat.not_lt_zero k))]; exact mj_bit0 k hk
  | n + 1, hn => by
    have ih := vCouldN_bit (mu := mu) (ls := ls) (rs := rs) hk n (by omega)
    rw [vCouldN]
    by_cases hc : vCould mu ls n (rs n) = true
    · rw [if_pos hc, mj_bit (by omega) hk]
      by_cases e : k = n
      · subst e
        rw [if_pos rfl, if_pos ⟨Nat.lt_succ_self k, hc⟩]
      · rw [if_neg e, ih]
        by_cases q : k < n ∧ vCould mu ls k (rs k) = true
        · rw [if_pos q, if_pos ⟨by omega, q.2⟩]
        · rw [if_neg q, if_neg (fun z => q ⟨by omega, z.2⟩)]
    · rw [if_neg hc, ih]
      by_cases q : k < n ∧ vCould mu ls k (rs k) = true
      · rw [if_pos q, if_pos ⟨by omega, q.2⟩]
      · rw [if_neg q, if_neg (fun z => ?_)]
        by_cases e : k = n
        · subst e; exact hc z.2
        · exact q ⟨by omega, z.2⟩
theorem vSoCould_of {y : mV} {k : Nat} (h8 : y.2.1 ≤ 8) (hk : k < y.2.1) : vSoCould y k := by
  have hb := vCouldN_bit (mu := y.2.2.1) (ls := y.2.2.2.1) (rs := y.2.2.2.2) (k := k) (by omega) y.2.1 h8
  have eb : vCouldY y >>> (nI k &&& 31) &&& 1 = if vCould y.2.2.1 y.2.2.2.1 k (y.2.2.2.2 k) = true then 1 else 0 := by
    unfold vCouldY
    rw [hb]
    by_cases q : vCould y.2.2.1 y.2.2.2.1 k (y.2.2.2.2 k) = true
    · rw [if_pos ⟨hk, q⟩, if_pos q]
    · rw [if_neg (fun z => q z.2), if_neg q]
  refine ⟨fun h => ?_, fun h => ?_⟩
  · rw [eb] at h
    by_cases q : vCould y.2.2.1 y.2.2.2.1 k (y.2.2.2.2 k) = true
    · unfold vCould at q
      rw [Bool.and_eq_true, Bool.or_eq_true, beq_iff_eq, beq_iff_eq, beq_iff_eq] at q
      have hz : (y.2.2.2.2 k).2 10 ≤ 0 ∧ 30 ≤ vDepth 0 (y.2.2.2.2 k).1 := by
        rcases q.2 with z | z
        · exact vBar_0 z
        · exact vBar_0 z
      exact ⟨v01_1 q.1, hz.1, hz.2⟩
    · rw [if_neg q] at h
      exact absurd h (by decide)
  · rw [eb] at h
    intro z
    have z1 : (y.2.2.2.2 k).2 15 = 0 := v01_0.mp z.1
    have z2 : vBarNow y.2.2.1 y.2.2.2.1 (y.2.2.2.2 k) = 0 := z.2
    refine h (if_pos ?_)
    unfold vCould
    rw [z1, z2]
    rfl
