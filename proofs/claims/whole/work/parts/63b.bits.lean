/-! Two bits of a place: sixteen places in an int. -/
def wgI (x q : Int) : Int := pAnd (pShr x (2 * q)) 3
def wpI (x q u : Int) : Int := pOr (pAnd x (pXor (pShl 3 (2 * q)) (-1))) (pShl u (2 * q))
theorem bw_3 : ∀ i : Nat, i < 32 → (3#32).getLsbD i = decide (i < 2) := by decide +kernel
theorem bw_sh : ∀ n : Nat, n < 16 → ((Int32.ofInt (2 * (n : Int)) &&& 31).toBitVec.smod 32).toNat = 2 * n := by decide +kernel
theorem bw_get (x : BitVec 32) (r i : Nat) (hr : r < 16) (hi : i < 32) : (x.sshiftRight (2 * r) &&& 3#32).getLsbD i = (decide (i < 2) && x.getLsbD (2 * r + i)) := by
  rw [BitVec.getLsbD_and, BitVec.getLsbD_sshiftRight, bw_3 i hi, decide_eq_false (show ¬ 32 ≤ i by omega)]
  by_cases h : i < 2
  · rw [if_pos (show 2 * r + i < 32 by omega), decide_eq_true h, Bool.and_true, Bool.not_false, Bool.true_and]
  · rw [decide_eq_false h, Bool.and_false, Bool.false_and]
theorem bw_put (x u : BitVec 32) (q j : Nat) (hq : q < 16) (hj : j < 32) (hu : u.toNat < 4) : ((x &&& ((3#32 <<< (2 * q)) ^^^ BitVec.allOnes 32)) ||| (u <<< (2 * q))).getLsbD j = if 2 * q ≤ j ∧ j < 2 * q + 2 then u.getLsbD (j - 2 * q) else x.getLsbD j := by
  have hu2 : ∀ k, 2 ≤ k → u.getLsbD k = false := fun k hk => by
    show u.toNat.testBit k = false
    exact Nat.testBit_lt_two_pow (Nat.lt_of_lt_of_le hu (show 2 ^ 2 ≤ 2 ^ k from Nat.pow_le_pow_right (by decide) hk))
  rw [BitVec.getLsbD_or, BitVec.getLsbD_and, BitVec.getLsbD_xor, BitVec.getLsbD_shiftLeft, BitVec.getLsbD_shiftLeft, BitVec.getLsbD_allOnes, decide_eq_true hj]
  by_cases h1 : j < 2 * q
  · rw [if_neg (show ¬ (2 * q ≤ j ∧ j < 2 * q + 2) by omega), decide_eq_true h1]
    simp
  · rw [decide_eq_false h1, bw_3 (j - 2 * q) (by omega)]
    by_cases h2 : j < 2 * q + 2
    · rw [if_pos ⟨by omega, h2⟩, decide_eq_true (show j - 2 * q < 2 by omega)]
      simp
    · rw [if_neg (fun z => h2 z.2), decide_eq_false (show ¬ j - 2 * q < 2 by omega), hu2 (j - 2 * q) (by omega)]
      simp
theorem bw_set (x u : BitVec 32) (q r : Nat) (hq : q < 16) (hr : r < 16) (hu : u.toNat < 4) : (((x &&& ((3#32 <<< (2 * q)) ^^^ BitVec.allOnes 32)) ||| (u <<< (2 * q))).sshiftRight (2 * r) &&& 3#32) = if q = r then u else (x.sshiftRight (2 * r) &&& 3#32) := by
  refine BitVec.eq_of_getLsbD_eq fun i hi => ?_
  rw [bw_get _ r i hr hi]
  by_cases h2 : i < 2
  · rw [decide_eq_true h2, Bool.true_and, bw_put x u q (2 * r + i) hq (by omega) hu]
    by_cases e : q = r
    · rw [if_pos e, if_pos (show 2 * q ≤ 2 * r + i ∧ 2 * r + i < 2 * q + 2 by omega), show 2 * r + i - 2 * q = i by omega]
    · rw [if_neg e, if_neg (show ¬ (2 * q ≤ 2 * r + i ∧ 2 * r + i < 2 * q + 2) by omega), bw_get x r i hr hi, decide_eq_true h2, Bool.true_and]
  · rw [decide_eq_false h2, Bool.false_and]
    by_cases e : q = r
    · rw [if_pos e]
      show false = u.toNat.testBit i
      exact (Nat.testBit_lt_two_pow (Nat.lt_of_lt_of_le hu (show 2 ^ 2 ≤ 2 ^ i from Nat.pow_le_pow_right (by decide) (by omega)))).symm
    · rw [if_neg e, bw_get x r i hr hi, decide_eq_false h2, Bool.false_and]
theorem wg_bv (x : Int) (n : Nat) (h : n < 16) : wgI x (n : Int) = ((Int32.ofInt x).toBitVec.sshiftRight (2 * n) &&& 3#32).toInt := by
  unfold wgI pAnd pShr
  rw [Int32.ofInt_toInt]
  show ((Int32.ofInt x).toBitVec.sshiftRight ((Int32.ofInt (2 * (n : Int)) &&& 31).toBitVec.smod 32).toNat &&& 3#32).toInt = _
  rw [bw_sh n h]
theorem wp_bv (x u : Int) (n : Nat) (h : n < 16) : (Int32.ofInt (wpI x (n : Int) u)).toBitVec = (((Int32.ofInt x).toBitVec &&& ((3#32 <<< (2 * n)) ^^^ BitVec.allOnes 32)) ||| ((Int32.ofInt u).toBitVec <<< (2 * n))) := by
  unfold wpI pOr pAnd pXor pShl
  simp only [Int32.ofInt_toInt]
  show (((Int32.ofInt x).toBitVec &&& ((3#32 <<< ((Int32.ofInt (2 * (n : Int)) &&& 31).toBitVec.smod 32).toNat) ^^^ (Int32.ofInt (-1)).toBitVec)) ||| ((Int32.ofInt u).toBitVec <<< ((Int32.ofInt (2 * (n : Int)) &&& 31).toBitVec.smod 32).toNat)) = _
  rw [bw_sh n h, show (Int32.ofInt (-1)).toBitVec = BitVec.allOnes 32 by decide]
theorem wg_wp {x u q r : Int} (hq : 0 ≤ q ∧ q < 16) (hr : 0 ≤ r ∧ r < 16) (hu : 0 ≤ u ∧ u ≤ 3) : wgI (wpI x q u) r = if q = r then u else wgI x r := by
  have key : ∀ v : Nat, v < 4 → (Int32.ofInt (v : Int)).toBitVec.toNat < 4 ∧ (Int32.ofInt (v : Int)).toBitVec.toInt = (v : Int) := by decide +kernel
  have hk := key u.toNat (by omega)
  rw [Int.toNat_of_nonneg hu.1] at hk
  have h0 := bw_set (Int32.ofInt x).toBitVec (Int32.ofInt u).toBitVec q.toNat r.toNat (by omega) (by omega) hk.1
  have h1 := wg_bv (wpI x q u) r.toNat (by omega)
  have h2 := wp_bv x u q.toNat (by omega)
  have h3 := wg_bv x r.toNat (by omega)
  rw [Int.toNat_of_nonneg hr.1] at h1 h3
  rw [Int.toNat_of_nonneg hq.1] at h2
  rw [h1, h2, h0, h3]
  by_cases e : q = r
  · rw [if_pos e, if_pos (by rw [e]), hk.2]
  · rw [if_neg e, if_neg (fun z => e (by omega))]
theorem wg_in {x r : Int} (hr : 0 ≤ r ∧ r < 16) : 0 ≤ wgI x r ∧ wgI x r ≤ 3 := by
  have h1 := wg_bv x r.toNat (by omega)
  rw [Int.toNat_of_nonneg hr.1] at h1
  rw [h1]
  have h2 : ((Int32.ofInt x).toBitVec.sshiftRight (2 * r.toNat) &&& 3#32).toNat ≤ 3 := by
    rw [BitVec.toNat_and]
    exact Nat.and_le_right
  rw [BitVec.toInt_eq_toNat_of_lt (by omega)]
  omega
