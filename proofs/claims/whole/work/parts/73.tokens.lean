/-! texts in tokens: a pure reading, and both machines' steps -/
def TC (w : qM) (d : Nat → Int) (n : Nat) : Prop := vI w 1 1 = n ∧ n ≤ 400 ∧ ∀ k, k < 400 → vI w 2 k = d k ∧ 0 ≤ d k ∧ d k ≤ 255
def TM (w : qM) (d : Nat → Int) (n : Nat) : Prop := vI w 98 13 = n ∧ n ≤ 400 ∧ ∀ k, k < 400 → (gI w 110 k &&& 255 = Zi (d k)) ∧ 0 ≤ d k ∧ d k ≤ 255 ∧ (vI w 110 k = d k ∨ 128 ≤ d k ∧ vI w 110 k = d k - 256)
theorem TC.mono {w w' : qM} {d : Nat → Int} {n : Nat} (h : TC w d n) (q : ∀ c k, c = 1 ∧ k = 1 ∨ c = 2 → gI w' c k = gI w c k) : TC w' d n := ⟨by rw [vI_of (q 1 1 (by omega))]; exact h.1, h.2.1, fun k hk => by rw [vI_of (q 2 k (by omega))]; exact h.2.2 k hk⟩
theorem TM.mono {w w' : qM} {d : Nat → Int} {n : Nat} (h : TM w d n) (q : ∀ c k, c = 98 ∧ k = 13 ∨ c = 110 → gI w' c k = gI w c k) : TM w' d n := ⟨by rw [vI_of (q 98 13 (by omega))]; exact h.1, h.2.1, fun k hk => by rw [q 110 k (by omega), vI_of (q 110 k (by omega))]; exact h.2.2 k hk⟩
def blkB (d : Nat → Int) (n k : Nat) : Bool := decide (k < n) && (decide (d k = 32) || decide (d k = 10))
def smlB (d : Nat → Int) (n k : Nat) : Bool := decide (k < n) && decide (97 ≤ d k ∧ d k ≤ 122)
def dgtB (d : Nat → Int) (n k : Nat) : Bool := decide (k < n) && decide (48 ≤ d k ∧ d k ≤ 57)
def tF (d : Nat → Int) (n p : Nat) : Nat := mK (blkB d n) p (n - p)
def tU (d : Nat → Int) (n f : Nat) : Nat := if n ≤ f then f else if smlB d n f then mK (smlB d n) f (n - f) else if dgtB d n f then mK (dgtB d n) f (n - f) else f + 1
def tK (d : Nat → Int) (n f : Nat) : Int := if n ≤ f then 0 else if smlB d n f then 1 else if dgtB d n f then (if tU d n f - f ≤ 3 then 2 else 4) else if d f = 59 then 3 else 4
def nV (d : Nat → Int) (f : Nat) : Nat → Int
  | 0 => 0
  | k + 1 => 10 * nV d f k + d (f + k) - 48
theorem tF_r (d : Nat → Int) (n p : Nat) (h : p ≤ n) : p ≤ tF d n p ∧ tF d n p ≤ n := by
  obtain ⟨h1, h2, -⟩ := mK_spec (blkB d n) (n - p) p
  unfold tF
  omega
theorem tU_r (d : Nat → Int) (n f : Nat) (h : f ≤ n) : f ≤ tU d n f ∧ tU d n f ≤ n := by
  have h1 := mK_spec (smlB d n) (n - f) f
  have h2 := mK_spec (dgtB d n) (n - f) f
  unfold tU
  split
  · omega
  · split
    · omega
    · split
      · omega
      · omega
theorem byC {w : qM} {d : Nat → Int} {n : Nat} (h : TC w d n) (i : Nat) (hi : i < 2147483648) : fX8_byteAt (Zi i) w = some (Zi (if i < n then d i else -1), w) := by
  obtain ⟨t1, t2, t3⟩ := h
  rw [fX8_byteAt_d]
  by_cases h : i < n
  · rw [if_pos h, ← (t3 i (by omega)).1]
    simp (disch := omega) only [fX8_byteAt_0, fX8_byteAt_11, fX8_byteAt_12, qbI_s, qbL_s, qbV_s, qbR_s, qbR_n, qbN_s, qbN_n, qbIX_s, qbIX_n, qbVX_s, qbVX_n, cond_true, cond_false, cond_dec, jadd, jsub, jmul, jneg, li_0, li_1, li_2, li_3, li_4, li_5, li_6, li_7, li_8, li_9, li_10, li_14, li_15, li_16, li_19, li_20, li_24, li_30, li_31, li_32, li_39, li_40, li_48, li_57, li_59, li_60, li_63, li_65, li_80, li_81, li_90, li_97, li_99, li_100, li_122, li_126, li_127, li_150, li_160, li_200, li_225, li_255, li_400, li_799, li_800, li_999, li_2400, li_3239, li_3240, li_1048575, li_1431655765, li_858993459, li_252645135, eqb_j, ltb_j, leb_j, inb_j, ix_j, ix_n, nz_b, nz_0, nz_1, eqb_b, bnot, vI_ne, vI_eq, gIL, gLI, gIR, gRI, gLR, gRL, Int.reduceLT, Int.reduceLE, Int.reduceEq, Int.reduceAdd, Int.reduceSub, Int.reduceMul, Int.reduceNeg, Int.reduceToNat, Nat.reduceEqDiff, reduceIte, if_neg, if_pos, gI_ne, gIv 1, t1, gIv 2]
  · rw [if_neg h]
    simp (disch := omega) only [fX8_byteAt_0, fX8_byteAt_11, fX8_byteAt_12, qbI_s, qbL_s, qbV_s, qbR_s, qbR_n, qbN_s, qbN_n, qbIX_s, qbIX_n, qbVX_s, qbVX_n, cond_true, cond_false, cond_dec, jadd, jsub, jmul, jneg, li_0, li_1, li_2, li_3, li_4, li_5, li_6, li_7, li_8, li_9, li_10, li_14, li_15, li_16, li_19, li_20, li_24, li_30, li_31, li_32, li_39, li_40, li_48, li_57, li_59, li_60, li_63, li_65, li_80, li_81, li_90, li_97, li_99, li_100, li_122, li_126, li_127, li_150, li_160, li_200, li_225, li_255, li_400, li_799, li_800, li_999, li_2400, li_3239, li_3240, li_1048575, li_1431655765, li_858993459, li_252645135, eqb_j, ltb_j, leb_j, inb_j, ix_j, ix_n, nz_b, nz_0, nz_1, eqb_b, bnot, vI_ne, vI_eq, gIL, gLI, gIR, gRI, gLR, gRL, Int.reduceLT, Int.reduceLE, Int.reduceEq, Int.reduceAdd, Int.reduceSub, Int.reduceMul, Int.reduceNeg, Int.reduceToNat, Nat.reduceEqDiff, reduceIte, if_neg, if_pos, gI_ne, gIv 1, t1]
theorem byM {w : qM} {d : Nat → Int} {n : Nat} (h : TM w d n) (i : Nat) (hi : i < 2147483648) : fX13_byteAt (Zi i) w = some (Zi (if i < n then d i else 0), w) := by
  obtain ⟨t1, t2, t3⟩ := h
  rw [fX13_byteAt_d]
  by_cases h : i < n
  · rw [if_pos h, ← (t3 i (by omega)).1]
    simp (disch := omega) only [fX13_byteAt_0, fX13_byteAt_12, qbI_s, qbL_s, qbV_s, qbR_s, qbR_n, qbN_s, qbN_n, qbIX_s, qbIX_n, qbVX_s, qbVX_n, cond_true, cond_false, cond_dec, jadd, jsub, jmul, jneg, li_0, li_1, li_2, li_3, li_4, li_5, li_6, li_7, li_8, li_9, li_10, li_14, li_15, li_16, li_19, li_20, li_24, li_30, li_31, li_32, li_39, li_40, li_48, li_57, li_59, li_60, li_63, li_65, li_80, li_81, li_90, li_97, li_99, li_100, li_122, li_126, li_127, li_150, li_160, li_200, li_225, li_255, li_400, li_799, li_800, li_999, li_2400, li_3239, li_3240, li_1048575, li_1431655765, li_858993459, li_252645135, eqb_j, ltb_j, leb_j, inb_j, ix_j, ix_n, nz_b, nz_0, nz_1, eqb_b, bnot, vI_ne, vI_eq, gIL, gLI, gIR, gRI, gLR, gRL, Int.reduceLT, Int.reduceLE, Int.reduceEq, Int.reduceAdd, Int.reduceSub, Int.reduceMul, Int.reduceNeg, Int.reduceToNat, Nat.reduceEqDiff, reduceIte, if_neg, if_pos, gI_ne, gIv 98, t1]
  · rw [if_neg h]
    simp (disch := omega) only [fX13_byteAt_0, fX13_byteAt_12, qbI_s, qbL_s, qbV_s, qbR_s, qbR_n, qbN_s, qbN_n, qbIX_s, qbIX_n, qbVX_s, qbVX_n, cond_true, cond_false, cond_dec, jadd, jsub, jmul, jneg, li_0, li_1, li_2, li_3, li_4, li_5, li_6, li_7, li_8, li_9, li_10, li_14, li_15, li_16, li_19, li_20, li_24, li_30, li_31, li_32, li_39, li_40, li_48, li_57, li_59, li_60, li_63, li_65, li_80, li_81, li_90, li_97, li_99, li_100, li_122, li_126, li_127, li_150, li_160, li_200, li_225, li_255, li_400, li_799, li_800, li_999, li_2400, li_3239, li_3240, li_1048575, li_1431655765, li_858993459, li_252645135, eqb_j, ltb_j, leb_j, inb_j, ix_j, ix_n, nz_b, nz_0, nz_1, eqb_b, bnot, vI_ne, vI_eq, gIL, gLI, gIR, gRI, gLR, gRL, Int.reduceLT, Int.reduceLE, Int.reduceEq, Int.reduceAdd, Int.reduceSub, Int.reduceMul, Int.reduceNeg, Int.reduceToNat, Nat.reduceEqDiff, reduceIte, if_neg, if_pos, gI_ne, gIv 98, t1]
theorem smC (z : Int) (h : -2147483648 ≤ z ∧ z < 2147483648) (m : qM) : fX6_isSmall (Zi z) m = some (Zi (bI (decide (97 ≤ z ∧ z ≤ 122))), m) := by
  rw [fX6_isSmall_d]
  simp (disch := omega) only [fX6_isSmall_0, qbI_s, qbL_s, qbV_s, qbR_s, qbR_n, qbN_s, qbN_n, qbIX_s, qbIX_n, qbVX_s, qbVX_n, cond_true, cond_false, cond_dec, jadd, jsub, jmul, jneg, li_0, li_1, li_2, li_3, li_4, li_5, li_6, li_7, li_8, li_9, li_10, li_14, li_15, li_16, li_19, li_20, li_24, li_30, li_31, li_32, li_39, li_40, li_48, li_57, li_59, li_60, li_63, li_65, li_80, li_81, li_90, li_97, li_99, li_100, li_122, li_126, li_127, li_150, li_160, li_200, li_225, li_255, li_400, li_799, li_800, li_999, li_2400, li_3239, li_3240, li_1048575, li_1431655765, li_858993459, li_252645135, eqb_j, ltb_j, leb_j, inb_j, ix_j, ix_n, nz_b, nz_0, nz_1, eqb_b, bnot, vI_ne, vI_eq, gIL, gLI, gIR, gRI, gLR, gRL, Int.reduceLT, Int.reduceLE, Int.reduceEq, Int.reduceAdd, Int.reduceSub, Int.reduceMul, Int.reduceNeg, Int.reduceToNat, Nat.reduceEqDiff, reduceIte, if_neg, if_pos, gI_ne, within_s]
theorem dgC (z : Int) (h : -2147483648 ≤ z ∧ z < 2147483648) (m : qM) : fX6_isDigit (Zi z) m = some (Zi (bI (decide (48 ≤ z ∧ z ≤ 57))), m) := by
  rw [fX6_isDigit_d]
  simp (disch := omega) only [fX6_isDigit_0, qbI_s, qbL_s, qbV_s, qbR_s, qbR_n, qbN_s, qbN_n, qbIX_s, qbIX_n, qbVX_s, qbVX_n, cond_true, cond_false, cond_dec, jadd, jsub, jmul, jneg, li_0, li_1, li_2, li_3, li_4, li_5, li_6, li_7, li_8, li_9, li_10, li_14, li_15, li_16, li_19, li_20, li_24, li_30, li_31, li_32, li_39, li_40, li_48, li_57, li_59, li_60, li_63, li_65, li_80, li_81, li_90, li_97, li_99, li_100, li_122, li_126, li_127, li_150, li_160, li_200, li_225, li_255, li_400, li_799, li_800, li_999, li_2400, li_3239, li_3240, li_1048575, li_1431655765, li_858993459, li_252645135, eqb_j, ltb_j, leb_j, inb_j, ix_j, ix_n, nz_b, nz_0, nz_1, eqb_b, bnot, vI_ne, vI_eq, gIL, gLI, gIR, gRI, gLR, gRL, Int.reduceLT, Int.reduceLE, Int.reduceEq, Int.reduceAdd, Int.reduceSub, Int.reduceMul, Int.reduceNeg, Int.reduceToNat, Nat.reduceEqDiff, reduceIte, if_neg, if_pos, gI_ne, within_s]
theorem dgM (z : Int) (h : -2147483648 ≤ z ∧ z < 2147483648) (m : qM) : fX13_isDigit (Zi z) m = some (Zi (bI (decide (48 ≤ z ∧ z ≤ 57))), m) := by
  rw [fX13_isDigit_d]
  by_cases g1 : z < 48
  · rw [decide_eq_false (by omega)]
    simp (disch := omega) only [fX13_isDigit_0, fX13_isDigit_8, fX13_isDigit_9, qbI_s, qbL_s, qbV_s, qbR_s, qbR_n, qbN_s, qbN_n, qbIX_s, qbIX_n, qbVX_s, qbVX_n, cond_true, cond_false, cond_dec, jadd, jsub, jmul, jneg, li_0, li_1, li_2, li_3, li_4, li_5, li_6, li_7, li_8, li_9, li_10, li_14, li_15, li_16, li_19, li_20, li_24, li_30, li_31, li_32, li_39, li_40, li_48, li_57, li_59, li_60, li_63, li_65, li_80, li_81, li_90, li_97, li_99, li_100, li_122, li_126, li_127, li_150, li_160, li_200, li_225, li_255, li_400, li_799, li_800, li_999, li_2400, li_3239, li_3240, li_1048575, li_1431655765, li_858993459, li_252645135, eqb_j, ltb_j, leb_j, inb_j, ix_j, ix_n, nz_b, nz_0, nz_1, eqb_b, bnot, vI_ne, vI_eq, gIL, gLI, gIR, gRI, gLR, gRL, Int.reduceLT, Int.reduceLE, Int.reduceEq, Int.reduceAdd, Int.reduceSub, Int.reduceMul, Int.reduceNeg, Int.reduceToNat, Nat.reduceEqDiff, reduceIte, if_neg, if_pos, gI_ne]
    rfl
  · by_cases g2 : 57 < z
    · rw [decide_eq_false (by omega)]
      simp (disch := omega) only [fX13_isDigit_0, fX13_isDigit_8, fX13_isDigit_9, qbI_s, qbL_s, qbV_s, qbR_s, qbR_n, qbN_s, qbN_n, qbIX_s, qbIX_n, qbVX_s, qbVX_n, cond_true, cond_false, cond_dec, jadd, jsub, jmul, jneg, li_0, li_1, li_2, li_3, li_4, li_5, li_6, li_7, li_8, li_9, li_10, li_14, li_15, li_16, li_19, li_20, li_24, li_30, li_31, li_32, li_39, li_40, li_48, li_57, li_59, li_60, li_63, li_65, li_80, li_81, li_90, li_97, li_99, li_100, li_122, li_126, li_127, li_150, li_160, li_200, li_225, li_255, li_400, li_799, li_800, li_999, li_2400, li_3239, li_3240, li_1048575, li_1431655765, li_858993459, li_252645135, eqb_j, ltb_j, leb_j, inb_j, ix_j, ix_n, nz_b, nz_0, nz_1, eqb_b, bnot, vI_ne, vI_eq, gIL, gLI, gIR, gRI, gLR, gRL, Int.reduceLT, Int.reduceLE, Int.reduceEq, Int.reduceAdd, Int.reduceSub, Int.reduceMul, Int.reduceNeg, Int.reduceToNat, Nat.reduceEqDiff, reduceIte, if_neg, if_pos, gI_ne]
      rfl
    · rw [decide_eq_true (by omega)]
      simp (disch := omega) only [fX13_isDigit_0, fX13_isDigit_8, fX13_isDigit_9, qbI_s, qbL_s, qbV_s, qbR_s, qbR_n, qbN_s, qbN_n, qbIX_s, qbIX_n, qbVX_s, qbVX_n, cond_true, cond_false, cond_dec, jadd, jsub, jmul, jneg, li_0, li_1, li_2, li_3, li_4, li_5, li_6, li_7, li_8, li_9, li_10, li_14, li_15, li_16, li_19, li_20, li_24, li_30, li_31, li_32, li_39, li_40, li_48, li_57, li_59, li_60, li_63, li_65, li_80, li_81, li_90, li_97, li_99, li_100, li_122, li_126, li_127, li_150, li_160, li_200, li_225, li_255, li_400, li_799, li_800, li_999, li_2400, li_3239, li_3240, li_1048575, li_1431655765, li_858993459, li_252645135, eqb_j, ltb_j, leb_j, inb_j, ix_j, ix_n, nz_b, nz_0, nz_1, eqb_b, bnot, vI_ne, vI_eq, gIL, gLI, gIR, gRI, gLR, gRL, Int.reduceLT, Int.reduceLE, Int.reduceEq, Int.reduceAdd, Int.reduceSub, Int.reduceMul, Int.reduceNeg, Int.reduceToNat, Nat.reduceEqDiff, reduceIte, if_neg, if_pos, gI_ne]
      rfl
theorem blC (z : Int) (h : -2147483648 ≤ z ∧ z < 2147483648) (m : qM) : fX6_isBlank (Zi z) m = some (Zi (bI (decide (z = 32) || decide (z = 10))), m) := by
  rw [fX6_isBlank_d]
  by_cases g1 : z = 32
  · rw [decide_eq_true g1, Bool.true_or]
    simp (disch := omega) only [fX6_isBlank_0, fX6_isBlank_6, fX6_isBlank_9, qbI_s, qbL_s, qbV_s, qbR_s, qbR_n, qbN_s, qbN_n, qbIX_s, qbIX_n, qbVX_s, qbVX_n, cond_true, cond_false, cond_dec, jadd, jsub, jmul, jneg, li_0, li_1, li_2, li_3, li_4, li_5, li_6, li_7, li_8, li_9, li_10, li_14, li_15, li_16, li_19, li_20, li_24, li_30, li_31, li_32, li_39, li_40, li_48, li_57, li_59, li_60, li_63, li_65, li_80, li_81, li_90, li_97, li_99, li_100, li_122, li_126, li_127, li_150, li_160, li_200, li_225, li_255, li_400, li_799, li_800, li_999, li_2400, li_3239, li_3240, li_1048575, li_1431655765, li_858993459, li_252645135, eqb_j, ltb_j, leb_j, inb_j, ix_j, ix_n, nz_b, nz_0, nz_1, eqb_b, bnot, vI_ne, vI_eq, gIL, gLI, gIR, gRI, gLR, gRL, Int.reduceLT, Int.reduceLE, Int.reduceEq, Int.reduceAdd, Int.reduceSub, Int.reduceMul, Int.reduceNeg, Int.reduceToNat, Nat.reduceEqDiff, reduceIte, if_neg, if_pos, gI_ne]
    rfl
  · rw [decide_eq_false g1, Bool.false_or]
    by_cases g2 : z = 10
    · rw [decide_eq_true g2]
      simp (disch := omega) only [fX6_isBlank_0, fX6_isBlank_6, fX6_isBlank_9, qbI_s, qbL_s, qbV_s, qbR_s, qbR_n, qbN_s, qbN_n, qbIX_s, qbIX_n, qbVX_s, qbVX_n, cond_true, cond_false, cond_dec, jadd, jsub, jmul, jneg, li_0, li_1, li_2, li_3, li_4, li_5, li_6, li_7, li_8, li_9, li_10, li_14, li_15, li_16, li_19, li_20, li_24, li_30, li_31, li_32, li_39, li_40, li_48, li_57, li_59, li_60, li_63, li_65, li_80, li_81, li_90, li_97, li_99, li_100, li_122, li_126, li_127, li_150, li_160, li_200, li_225, li_255, li_400, li_799, li_800, li_999, li_2400, li_3239, li_3240, li_1048575, li_1431655765, li_858993459, li_252645135, eqb_j, ltb_j, leb_j, inb_j, ix_j, ix_n, nz_b, nz_0, nz_1, eqb_b, bnot, vI_ne, vI_eq, gIL, gLI, gIR, gRI, gLR, gRL, Int.reduceLT, Int.reduceLE, Int.reduceEq, Int.reduceAdd, Int.reduceSub, Int.reduceMul, Int.reduceNeg, Int.reduceToNat, Nat.reduceEqDiff, reduceIte, if_neg, if_pos, gI_ne]
      rfl
    · rw [decide_eq_false g2]
      simp (disch := omega) only [fX6_isBlank_0, fX6_isBlank_6, fX6_isBlank_9, qbI_s, qbL_s, qbV_s, qbR_s, qbR_n, qbN_s, qbN_n, qbIX_s, qbIX_n, qbVX_s, qbVX_n, cond_true, cond_false, cond_dec, jadd, jsub, jmul, jneg, li_0, li_1, li_2, li_3, li_4, li_5, li_6, li_7, li_8, li_9, li_10, li_14, li_15, li_16, li_19, li_20, li_24, li_30, li_31, li_32, li_39, li_40, li_48, li_57, li_59, li_60, li_63, li_65, li_80, li_81, li_90, li_97, li_99, li_100, li_122, li_126, li_127, li_150, li_160, li_200, li_225, li_255, li_400, li_799, li_800, li_999, li_2400, li_3239, li_3240, li_1048575, li_1431655765, li_858993459, li_252645135, eqb_j, ltb_j, leb_j, inb_j, ix_j, ix_n, nz_b, nz_0, nz_1, eqb_b, bnot, vI_ne, vI_eq, gIL, gLI, gIR, gRI, gLR, gRL, Int.reduceLT, Int.reduceLE, Int.reduceEq, Int.reduceAdd, Int.reduceSub, Int.reduceMul, Int.reduceNeg, Int.reduceToNat, Nat.reduceEqDiff, reduceIte, if_neg, if_pos, gI_ne]
      rfl
theorem mK_t {p : Nat → Bool} {k r : Nat} (h : p k = true) : mK p k (r + 1) = mK p (k + 1) r := by
  rw [mK, if_pos h]
theorem mK_f {p : Nat → Bool} {k r : Nat} (h : p k = false) : mK p k r = k := by
  cases r
  · rfl
  · rw [mK, h, if_neg (by decide)]
section
variable {d : Nat → Int} {n : Nat}
theorem skipC {m : qM} {post : Unit → qM → Prop} (k24 : qM → Option (Unit × qM)) : ∀ (r k g : Nat) (w : qM), k + r = n → r < g → TC w d n → vI w 3 2 = k → Fr (fun c k => c = 3 ∧ k = 2) m w → (∀ w' : qM, TC w' d n → Fr (fun c k => c = 3 ∧ k = 2) m w' → vI w' 3 2 = mK (blkB d n) k r → wp (k24 w') post) → wp (fX6_step_4 k24 g w) post := by
  intro r
  induction r with
  | zero =>
    intro k g w hk hg hT h2 hF kk
    obtain ⟨g, rfl⟩ : ∃ g', g = g' + 1 := ⟨g - 1, by omega⟩
    have nx := kk w hT hF h2
    have t1 := hT.1
    have hn := hT.2.1
    simp (disch := omega) only [fX6_step_4, fX8_size_d, fX8_size_0, qbI_s, qbL_s, qbV_s, qbR_s, qbR_n, qbN_s, qbN_n, qbIX_s, qbIX_n, qbVX_s, qbVX_n, cond_true, cond_false, cond_dec, jadd, jsub, jmul, jneg, li_0, li_1, li_2, li_3, li_4, li_5, li_6, li_7, li_8, li_9, li_10, li_14, li_15, li_16, li_19, li_20, li_24, li_30, li_31, li_32, li_39, li_40, li_48, li_57, li_59, li_60, li_63, li_65, li_80, li_81, li_90, li_97, li_99, li_100, li_122, li_126, li_127, li_150, li_160, li_200, li_225, li_255, li_400, li_799, li_800, li_999, li_2400, li_3239, li_3240, li_1048575, li_1431655765, li_858993459, li_252645135, eqb_j, ltb_j, leb_j, inb_j, ix_j, ix_n, nz_b, nz_0, nz_1, eqb_b, bnot, vI_ne, vI_eq, gIL, gLI, gIR, gRI, gLR, gRL, Int.reduceLT, Int.reduceLE, Int.reduceEq, Int.reduceAdd, Int.reduceSub, Int.reduceMul, Int.reduceNeg, Int.reduceToNat, Nat.reduceEqDiff, reduceIte, if_neg, if_pos, gI_ne, gIv 1, t1, gIv 3, h2]
    exact nx
  | succ r ih =>
    intro k g w hk hg hT h2 hF kk
    obtain ⟨g, rfl⟩ : ∃ g', g = g' + 1 := ⟨g - 1, by omega⟩
    have hn := hT.2.1
    have t1 := hT.1
    have hb := byC hT k (by omega)
    rw [if_pos (by omega)] at hb
    have hr := hT.2.2 k (by omega)
    have hl := blC (d k) (by omega) w
    have hdef : blkB d n k = (decide (d k = 32) || decide (d k = 10)) := by unfold blkB; rw [decide_eq_true (by omega), Bool.true_and]
    rw [← hdef] at hl
    cases c : blkB d n k
    · rw [c] at hl
      rw [mK_f c] at kk
      have nx := kk w hT hF h2
      simp (disch := omega) only [fX6_step_4, fX8_size_d, fX8_size_0, qbI_s, qbL_s, qbV_s, qbR_s, qbR_n, qbN_s, qbN_n, qbIX_s, qbIX_n, qbVX_s, qbVX_n, cond_true, cond_false, cond_dec, jadd, jsub, jmul, jneg, li_0, li_1, li_2, li_3, li_4, li_5, li_6, li_7, li_8, li_9, li_10, li_14, li_15, li_16, li_19, li_20, li_24, li_30, li_31, li_32, li_39, li_40, li_48, li_57, li_59, li_60, li_63, li_65, li_80, li_81, li_90, li_97, li_99, li_100, li_122, li_126, li_127, li_150, li_160, li_200, li_225, li_255, li_400, li_799, li_800, li_999, li_2400, li_3239, li_3240, li_1048575, li_1431655765, li_858993459, li_252645135, eqb_j, ltb_j, leb_j, inb_j, ix_j, ix_n, nz_b, nz_0, nz_1, eqb_b, bnot, vI_ne, vI_eq, gIL, gLI, gIR, gRI, gLR, gRL, Int.reduceLT, Int.reduceLE, Int.reduceEq, Int.reduceAdd, Int.reduceSub, Int.reduceMul, Int.reduceNeg, Int.reduceToNat, Nat.reduceEqDiff, reduceIte, if_neg, if_pos, gI_ne, gIv 1, t1, gIv 3, h2, hb, hl, show bI false = 0 from rfl]
      exact nx
    · rw [c] at hl
      rw [mK_t c] at kk
      have nx := ih (k + 1) g (sI w 3 2 (Zi ((k : Int) + 1))) (by omega) (by omega) (hT.mono fun c k hc => by rw [gI_sI, if_neg (by omega)]) (by rw [vI_eq (by omega), if_pos rfl]; omega) (hF.wI 3 2 _ ⟨rfl, rfl⟩) kk
      simp (disch := omega) only [fX6_step_4, fX8_size_d, fX8_size_0, qbI_s, qbL_s, qbV_s, qbR_s, qbR_n, qbN_s, qbN_n, qbIX_s, qbIX_n, qbVX_s, qbVX_n, cond_true, cond_false, cond_dec, jadd, jsub, jmul, jneg, li_0, li_1, li_2, li_3, li_4, li_5, li_6, li_7, li_8, li_9, li_10, li_14, li_15, li_16, li_19, li_20, li_24, li_30, li_31, li_32, li_39, li_40, li_48, li_57, li_59, li_60, li_63, li_65, li_80, li_81, li_90, li_97, li_99, li_100, li_122, li_126, li_127, li_150, li_160, li_200, li_225, li_255, li_400, li_799, li_800, li_999, li_2400, li_3239, li_3240, li_1048575, li_1431655765, li_858993459, li_252645135, eqb_j, ltb_j, leb_j, inb_j, ix_j, ix_n, nz_b, nz_0, nz_1, eqb_b, bnot, vI_ne, vI_eq, gIL, gLI, gIR, gRI, gLR, gRL, Int.reduceLT, Int.reduceLE, Int.reduceEq, Int.reduceAdd, Int.reduceSub, Int.reduceMul, Int.reduceNeg, Int.reduceToNat, Nat.reduceEqDiff, reduceIte, if_neg, if_pos, gI_ne, gIv 1, t1, gIv 3, h2, hb, hl, show bI true = 1 from rfl]
      exact nx
theorem runC {m : qM} {post : Unit → qM → Prop} (k62 : qM → Option (Unit × qM)) : ∀ (r k g : Nat) (w : qM), k + r = n → r < g → TC w d n → vI w 3 3 = k → Fr (fun c k => c = 3 ∧ k = 3) m w → (∀ w' : qM, TC w' d n → Fr (fun c k => c = 3 ∧ k = 3) m w' → vI w' 3 3 = mK (smlB d n) k r → wp (k62 w') post) → wp (fX6_step_44 k62 g w) post := by
  intro r
  induction r with
  | zero =>
    intro k g w hk hg hT h2 hF kk
    obtain ⟨g, rfl⟩ : ∃ g', g = g' + 1 := ⟨g - 1, by omega⟩
    have nx := kk w hT hF h2
    have hn := hT.2.1
    have hb := byC hT k (by omega)
    rw [if_neg (by omega)] at hb
    simp (disch := omega) only [fX6_step_44, qbI_s, qbL_s, qbV_s, qbR_s, qbR_n, qbN_s, qbN_n, qbIX_s, qbIX_n, qbVX_s, qbVX_n, cond_true, cond_false, cond_dec, jadd, jsub, jmul, jneg, li_0, li_1, li_2, li_3, li_4, li_5, li_6, li_7, li_8, li_9, li_10, li_14, li_15, li_16, li_19, li_20, li_24, li_30, li_31, li_32, li_39, li_40, li_48, li_57, li_59, li_60, li_63, li_65, li_80, li_81, li_90, li_97, li_99, li_100, li_122, li_126, li_127, li_150, li_160, li_200, li_225, li_255, li_400, li_799, li_800, li_999, li_2400, li_3239, li_3240, li_1048575, li_1431655765, li_858993459, li_252645135, eqb_j, ltb_j, leb_j, inb_j, ix_j, ix_n, nz_b, nz_0, nz_1, eqb_b, bnot, vI_ne, vI_eq, gIL, gLI, gIR, gRI, gLR, gRL, Int.reduceLT, Int.reduceLE, Int.reduceEq, Int.reduceAdd, Int.reduceSub, Int.reduceMul, Int.reduceNeg, Int.reduceToNat, Nat.reduceEqDiff, reduceIte, if_neg, if_pos, gI_ne, gIv 3, h2, hb, smC, Int.reduceLE, Int.reduceNeg, false_and, decide_false, show bI false = 0 from rfl]
    exact nx
  | succ r ih =>
    intro k g w hk hg hT h2 hF kk
    obtain ⟨g, rfl⟩ : ∃ g', g = g' + 1 := ⟨g - 1, by omega⟩
    have hn := hT.2.1
    have hb := byC hT k (by omega)
    rw [if_pos (by omega)] at hb
    have hr := hT.2.2 k (by omega)
    have hl := smC (d k) (by omega) w
    have hdef : smlB d n k = decide (97 ≤ d k ∧ d k ≤ 122) := by unfold smlB; rw [decide_eq_true (show k < n by omega), Bool.true_and]
    rw [← hdef] at hl
    cases c : smlB d n k
    · rw [c] at hl
      rw [mK_f c] at kk
      have nx := kk w hT hF h2
      simp (disch := omega) only [fX6_step_44, qbI_s, qbL_s, qbV_s, qbR_s, qbR_n, qbN_s, qbN_n, qbIX_s, qbIX_n, qbVX_s, qbVX_n, cond_true, cond_false, cond_dec, jadd, jsub, jmul, jneg, li_0, li_1, li_2, li_3, li_4, li_5, li_6, li_7, li_8, li_9, li_10, li_14, li_15, li_16, li_19, li_20, li_24, li_30, li_31, li_32, li_39, li_40, li_48, li_57, li_59, li_60, li_63, li_65, li_80, li_81, li_90, li_97, li_99, li_100, li_122, li_126, li_127, li_150, li_160, li_200, li_225, li_255, li_400, li_799, li_800, li_999, li_2400, li_3239, li_3240, li_1048575, li_1431655765, li_858993459, li_252645135, eqb_j, ltb_j, leb_j, inb_j, ix_j, ix_n, nz_b, nz_0, nz_1, eqb_b, bnot, vI_ne, vI_eq, gIL, gLI, gIR, gRI, gLR, gRL, Int.reduceLT, Int.reduceLE, Int.reduceEq, Int.reduceAdd, Int.reduceSub, Int.reduceMul, Int.reduceNeg, Int.reduceToNat, Nat.reduceEqDiff, reduceIte, if_neg, if_pos, gI_ne, gIv 3, h2, hb, hl, show bI false = 0 from rfl]
      exact nx
    · rw [c] at hl
      rw [mK_t c] at kk
      have nx := ih (k + 1) g (sI w 3 3 (Zi ((k : Int) + 1))) (by omega) (by omega) (hT.mono fun c k hc => by rw [gI_sI, if_neg (by omega)]) (by rw [vI_eq (by omega), if_pos rfl]; omega) (hF.wI 3 3 _ ⟨rfl, rfl⟩) kk
      simp (disch := omega) only [fX6_step_44, qbI_s, qbL_s, qbV_s, qbR_s, qbR_n, qbN_s, qbN_n, qbIX_s, qbIX_n, qbVX_s, qbVX_n, cond_true, cond_false, cond_dec, jadd, jsub, jmul, jneg, li_0, li_1, li_2, li_3, li_4, li_5, li_6, li_7, li_8, li_9, li_10, li_14, li_15, li_16, li_19, li_20, li_24, li_30, li_31, li_32, li_39, li_40, li_48, li_57, li_59, li_60, li_63, li_65, li_80, li_81, li_90, li_97, li_99, li_100, li_122, li_126, li_127, li_150, li_160, li_200, li_225, li_255, li_400, li_799, li_800, li_999, li_2400, li_3239, li_3240, li_1048575, li_1431655765, li_858993459, li_252645135, eqb_j, ltb_j, leb_j, inb_j, ix_j, ix_n, nz_b, nz_0, nz_1, eqb_b, bnot, vI_ne, vI_eq, gIL, gLI, gIR, gRI, gLR, gRL, Int.reduceLT, Int.reduceLE, Int.reduceEq, Int.reduceAdd, Int.reduceSub, Int.reduceMul, Int.reduceNeg, Int.reduceToNat, Nat.reduceEqDiff, reduceIte, if_neg, if_pos, gI_ne, gIv 3, h2, hb, hl, show bI true = 1 from rfl]
      exact nx
theorem digC {m : qM} {post : Unit → qM → Prop} (k62 : qM → Option (Unit × qM)) : ∀ (r k g : Nat) (w : qM), k + r = n → r < g → TC w d n → vI w 3 3 = k → Fr (fun c k => c = 3 ∧ k = 3) m w → (∀ w' : qM, TC w' d n → Fr (fun c k => c = 3 ∧ k = 3) m w' → vI w' 3 3 = mK (dgtB d n) k r → wp (k62 w') post) → wp (fX6_step_69 k62 g w) post := by
  intro r
  induction r with
  | zero =>
    intro k g w hk hg hT h2 hF kk
    obtain ⟨g, rfl⟩ : ∃ g', g = g' + 1 := ⟨g - 1, by omega⟩
    have nx := kk w hT hF h2
    have hn := hT.2.1
    have hb := byC hT k (by omega)
    rw [if_neg (by omega)] at hb
    simp (disch := omega) only [fX6_step_69, qbI_s, qbL_s, qbV_s, qbR_s, qbR_n, qbN_s, qbN_n, qbIX_s, qbIX_n, qbVX_s, qbVX_n, cond_true, cond_false, cond_dec, jadd, jsub, jmul, jneg, li_0, li_1, li_2, li_3, li_4, li_5, li_6, li_7, li_8, li_9, li_10, li_14, li_15, li_16, li_19, li_20, li_24, li_30, li_31, li_32, li_39, li_40, li_48, li_57, li_59, li_60, li_63, li_65, li_80, li_81, li_90, li_97, li_99, li_100, li_122, li_126, li_127, li_150, li_160, li_200, li_225, li_255, li_400, li_799, li_800, li_999, li_2400, li_3239, li_3240, li_1048575, li_1431655765, li_858993459, li_252645135, eqb_j, ltb_j, leb_j, inb_j, ix_j, ix_n, nz_b, nz_0, nz_1, eqb_b, bnot, vI_ne, vI_eq, gIL, gLI, gIR, gRI, gLR, gRL, Int.reduceLT, Int.reduceLE, Int.reduceEq, Int.reduceAdd, Int.reduceSub, Int.reduceMul, Int.reduceNeg, Int.reduceToNat, Nat.reduceEqDiff, reduceIte, if_neg, if_pos, gI_ne, gIv 3, h2, hb, dgC, Int.reduceLE, Int.reduceNeg, false_and, decide_false, show bI false = 0 from rfl]
    exact nx
  | succ r ih =>
    intro k g w hk hg hT h2 hF kk
    obtain ⟨g, rfl⟩ : ∃ g', g = g' + 1 := ⟨g - 1, by omega⟩
    have hn := hT.2.1
    have hb := byC hT k (by omega)
    rw [if_pos (by omega)] at hb
    have hr := hT.2.2 k (by omega)
    have hl := dgC (d k) (by omega) w
    have hdef : dgtB d n k = decide (48 ≤ d k ∧ d k ≤ 57) := by unfold dgtB; rw [decide_eq_true (show k < n by omega), Bool.true_and]
    rw [← hdef] at hl
    cases c : dgtB d n k
    · rw [c] at hl
      rw [mK_f c] at kk
      have nx := kk w hT hF h2
      simp (disch := omega) only [fX6_step_69, qbI_s, qbL_s, qbV_s, qbR_s, qbR_n, qbN_s, qbN_n, qbIX_s, qbIX_n, qbVX_s, qbVX_n, cond_true, cond_false, cond_dec, jadd, jsub, jmul, jneg, li_0, li_1, li_2, li_3, li_4, li_5, li_6, li_7, li_8, li_9, li_10, li_14, li_15, li_16, li_19, li_20, li_24, li_30, li_31, li_32, li_39, li_40, li_48, li_57, li_59, li_60, li_63, li_65, li_80, li_81, li_90, li_97, li_99, li_100, li_122, li_126, li_127, li_150, li_160, li_200, li_225, li_255, li_400, li_799, li_800, li_999, li_2400, li_3239, li_3240, li_1048575, li_1431655765, li_858993459, li_252645135, eqb_j, ltb_j, leb_j, inb_j, ix_j, ix_n, nz_b, nz_0, nz_1, eqb_b, bnot, vI_ne, vI_eq, gIL, gLI, gIR, gRI, gLR, gRL, Int.reduceLT, Int.reduceLE, Int.reduceEq, Int.reduceAdd, Int.reduceSub, Int.reduceMul, Int.reduceNeg, Int.reduceToNat, Nat.reduceEqDiff, reduceIte, if_neg, if_pos, gI_ne, gIv 3, h2, hb, hl, show bI false = 0 from rfl]
      exact nx
    · rw [c] at hl
      rw [mK_t c] at kk
      have nx := ih (k + 1) g (sI w 3 3 (Zi ((k : Int) + 1))) (by omega) (by omega) (hT.mono fun c k hc => by rw [gI_sI, if_neg (by omega)]) (by rw [vI_eq (by omega), if_pos rfl]; omega) (hF.wI 3 3 _ ⟨rfl, rfl⟩) kk
      simp (disch := omega) only [fX6_step_69, qbI_s, qbL_s, qbV_s, qbR_s, qbR_n, qbN_s, qbN_n, qbIX_s, qbIX_n, qbVX_s, qbVX_n, cond_true, cond_false, cond_dec, jadd, jsub, jmul, jneg, li_0, li_1, li_2, li_3, li_4, li_5, li_6, li_7, li_8, li_9, li_10, li_14, li_15, li_16, li_19, li_20, li_24, li_30, li_31, li_32, li_39, li_40, li_48, li_57, li_59, li_60, li_63, li_65, li_80, li_81, li_90, li_97, li_99, li_100, li_122, li_126, li_127, li_150, li_160, li_200, li_225, li_255, li_400, li_799, li_800, li_999, li_2400, li_3239, li_3240, li_1048575, li_1431655765, li_858993459, li_252645135, eqb_j, ltb_j, leb_j, inb_j, ix_j, ix_n, nz_b, nz_0, nz_1, eqb_b, bnot, vI_ne, vI_eq, gIL, gLI, gIR, gRI, gLR, gRL, Int.reduceLT, Int.reduceLE, Int.reduceEq, Int.reduceAdd, Int.reduceSub, Int.reduceMul, Int.reduceNeg, Int.reduceToNat, Nat.reduceEqDiff, reduceIte, if_neg, if_pos, gI_ne, gIv 3, h2, hb, hl, show bI true = 1 from rfl]
      exact nx
end
theorem step_s (m : qM) (d : Nat → Int) (n : Nat) (hT : TC m d n) (p : Nat) (hp : vI m 3 3 = p) (hpn : p ≤ n) : wp (fX6_step m) (fun _ m' => Fr (fun c k => c = 3 ∧ 1 ≤ k ∧ k ≤ 3) m m' ∧ vI m' 3 2 = tF d n p ∧ vI m' 3 3 = tU d n (tF d n p) ∧ vI m' 3 1 = tK d n (tF d n p)) := by
  have hn := hT.2.1
  obtain ⟨f1, f2⟩ := tF_r d n p hpn
  rw [fX6_step_d]
  simp (disch := omega) only [fX6_step_0, gIv 3, hp]
  refine skipC (m := sI m 3 2 (Zi p)) _ (n - p) p FU (sI m 3 2 (Zi p)) (by omega) (by rw [FU_d]; omega) (hT.mono fun c k hc => by rw [gI_sI, if_neg (by omega)]) (by rw [vI_eq (by omega), if_pos rfl]) (Fr.rf _) fun w hTw hFw hw => ?_
  change vI w 3 2 = (tF d n p : Nat) at hw
  generalize tF d n p = f at *
  have F0 : Fr (fun c k => c = 3 ∧ 1 ≤ k ∧ k ≤ 3) m w := ((Fr.rf m).wI 3 2 _ (by omega)).tr (hFw.wide fun c k hc => by omega)
  have hT9 : TC (sI w 3 3 (Zi f)) d n := hTw.mono fun c k hc => by rw [gI_sI, if_neg (by omega)]
  have hb := byC hT9 f (by omega)
  have F9 : Fr (fun c k => c = 3 ∧ 1 ≤ k ∧ k ≤ 3) m (sI w 3 3 (Zi f)) := F0.wI 3 3 _ (by omega)
  have v2 : vI (sI w 3 3 (Zi f)) 3 2 = f := by rw [vI_nk (by omega), hw]
  have v3 : vI (sI w 3 3 (Zi f)) 3 3 = f := by rw [vI_eq (by omega), if_pos rfl]
  by_cases g0 : n ≤ f
  · rw [if_neg (by omega)] at hb
    refine wp_e (x := ()) (m := sI (sI w 3 3 (Zi f)) 3 1 (Zi 0)) ?_ ⟨F9.wI 3 1 _ (by omega), by rw [vI_nk (by omega), v2], by rw [vI_nk (by omega), v3, tU, if_pos g0], by rw [vI_eq (by omega), if_pos rfl, tK, if_pos g0]⟩
    simp (disch := omega) only [fX6_step_24, fX6_step_114, qbI_s, qbL_s, qbV_s, qbR_s, qbR_n, qbN_s, qbN_n, qbIX_s, qbIX_n, qbVX_s, qbVX_n, cond_true, cond_false, cond_dec, jadd, jsub, jmul, jneg, li_0, li_1, li_2, li_3, li_4, li_5, li_6, li_7, li_8, li_9, li_10, li_14, li_15, li_16, li_19, li_20, li_24, li_30, li_31, li_32, li_39, li_40, li_48, li_57, li_59, li_60, li_63, li_65, li_80, li_81, li_90, li_97, li_99, li_100, li_122, li_126, li_127, li_150, li_160, li_200, li_225, li_255, li_400, li_799, li_800, li_999, li_2400, li_3239, li_3240, li_1048575, li_1431655765, li_858993459, li_252645135, eqb_j, ltb_j, leb_j, inb_j, ix_j, ix_n, nz_b, nz_0, nz_1, eqb_b, bnot, vI_ne, vI_eq, gIL, gLI, gIR, gRI, gLR, gRL, Int.reduceLT, Int.reduceLE, Int.reduceEq, Int.reduceAdd, Int.reduceSub, Int.reduceMul, Int.reduceNeg, Int.reduceToNat, Nat.reduceEqDiff, reduceIte, if_neg, if_pos, gI_ne, gIv 3, hw, hb, Int.reduceNeg, show (-1 : Int32) = Zi (-1) from rfl]
  · rw [if_pos (by omega)] at hb
    have hr := hT.2.2 f (by omega)
    by_cases g1 : 97 ≤ d f ∧ d f ≤ 122
    · have c1 : smlB d n f = true := by unfold smlB; rw [decide_eq_true (show f < n by omega), decide_eq_true g1]; rfl
      have nx : wp (fX6_step_44 fX6_step_62 FU (sI w 3 3 (Zi f))) (fun _ m' => Fr (fun c k => c = 3 ∧ 1 ≤ k ∧ k ≤ 3) m m' ∧ vI m' 3 2 = f ∧ vI m' 3 3 = tU d n f ∧ vI m' 3 1 = tK d n f) := by
        refine runC (d := d) (n := n) (m := sI w 3 3 (Zi f)) _ (n - f) f FU _ (by omega) (by rw [FU_d]; omega) hT9 v3 (Fr.rf _) fun u hTu hFu hu => ?_
        refine wp_e (x := ()) (m := sI u 3 1 (Zi 1)) ?_ ⟨(F9.tr (hFu.wide fun c k hc => by omega)).wI 3 1 _ (by omega), by rw [vI_nk (by omega), hFu.v 3 2 (by omega), v2], by rw [vI_nk (by omega), hu, tU, if_neg g0, if_pos c1], by rw [vI_eq (by omega), if_pos rfl, tK, if_neg g0, if_pos c1]⟩
        simp (disch := omega) only [fX6_step_62, fX6_step_114, qbI_s, qbL_s, qbV_s, qbR_s, qbR_n, qbN_s, qbN_n, qbIX_s, qbIX_n, qbVX_s, qbVX_n, cond_true, cond_false, cond_dec, jadd, jsub, jmul, jneg, li_0, li_1, li_2, li_3, li_4, li_5, li_6, li_7, li_8, li_9, li_10, li_14, li_15, li_16, li_19, li_20, li_24, li_30, li_31, li_32, li_39, li_40, li_48, li_57, li_59, li_60, li_63, li_65, li_80, li_81, li_90, li_97, li_99, li_100, li_122, li_126, li_127, li_150, li_160, li_200, li_225, li_255, li_400, li_799, li_800, li_999, li_2400, li_3239, li_3240, li_1048575, li_1431655765, li_858993459, li_252645135, eqb_j, ltb_j, leb_j, inb_j, ix_j, ix_n, nz_b, nz_0, nz_1, eqb_b, bnot, vI_ne, vI_eq, gIL, gLI, gIR, gRI, gLR, gRL, Int.reduceLT, Int.reduceLE, Int.reduceEq, Int.reduceAdd, Int.reduceSub, Int.reduceMul, Int.reduceNeg, Int.reduceToNat, Nat.reduceEqDiff, reduceIte, if_neg, if_pos, gI_ne]
      have hs := smC (d f) (by omega) (sI w 3 3 (Zi f))
      rw [decide_eq_true g1] at hs
      simp (disch := omega) only [fX6_step_24, qbI_s, qbL_s, qbV_s, qbR_s, qbR_n, qbN_s, qbN_n, qbIX_s, qbIX_n, qbVX_s, qbVX_n, cond_true, cond_false, cond_dec, jadd, jsub, jmul, jneg, li_0, li_1, li_2, li_3, li_4, li_5, li_6, li_7, li_8, li_9, li_10, li_14, li_15, li_16, li_19, li_20, li_24, li_30, li_31, li_32, li_39, li_40, li_48, li_57, li_59, li_60, li_63, li_65, li_80, li_81, li_90, li_97, li_99, li_100, li_122, li_126, li_127, li_150, li_160, li_200, li_225, li_255, li_400, li_799, li_800, li_999, li_2400, li_3239, li_3240, li_1048575, li_1431655765, li_858993459, li_252645135, eqb_j, ltb_j, leb_j, inb_j, ix_j, ix_n, nz_b, nz_0, nz_1, eqb_b, bnot, vI_ne, vI_eq, gIL, gLI, gIR, gRI, gLR, gRL, Int.reduceLT, Int.reduceLE, Int.reduceEq, Int.reduceAdd, Int.reduceSub, Int.reduceMul, Int.reduceNeg, Int.reduceToNat, Nat.reduceEqDiff, reduceIte, if_neg, if_pos, gI_ne, gIv 3, hw, hb, hs, Int.reduceNeg, show (-1 : Int32) = Zi (-1) from rfl, show bI true = 1 from rfl]
      exact nx
    · have c1 : ¬ smlB d n f = true := by unfold smlB; rw [decide_eq_false g1, Bool.and_false]; decide
      have hs := smC (d f) (by omega) (sI w 3 3 (Zi f))
      rw [decide_eq_false g1] at hs
      have hd := dgC (d f) (by omega) (sI w 3 3 (Zi f))
      by_cases g2 : 48 ≤ d f ∧ d f ≤ 57
      · rw [decide_eq_true g2] at hd
        have c2 : dgtB d n f = true := by unfold dgtB; rw [decide_eq_true (show f < n by omega), decide_eq_true g2]; rfl
        have nx : wp (fX6_step_69 fX6_step_87 FU (sI w 3 3 (Zi f))) (fun _ m' => Fr (fun c k => c = 3 ∧ 1 ≤ k ∧ k ≤ 3) m m' ∧ vI m' 3 2 = f ∧ vI m' 3 3 = tU d n f ∧ vI m' 3 1 = tK d n f) := by
          refine digC (d := d) (n := n) (m := sI w 3 3 (Zi f)) _ (n - f) f FU _ (by omega) (by rw [FU_d]; omega) hT9 v3 (Fr.rf _) fun u hTu hFu hu => ?_
          have u2 : vI u 3 2 = f := by rw [hFu.v 3 2 (by omega), v2]
          obtain ⟨k1, k2⟩ := tU_r d n f (by omega)
          have hu' : vI u 3 3 = (tU d n f : Nat) := by rw [hu, tU, if_neg g0, if_neg c1, if_pos c2]
          have Fu := F9.tr (hFu.wide (Q := fun c k => c = 3 ∧ 1 ≤ k ∧ k ≤ 3) fun c k hc => by omega)
          have t4 : tK d n f = if tU d n f - f ≤ 3 then 2 else 4 := by rw [tK, if_neg g0, if_neg c1, if_pos c2]
          by_cases g3 : tU d n f - f ≤ 3
          · refine wp_e (x := ()) (m := sI u 3 1 (Zi 2)) ?_ ⟨Fu.wI 3 1 _ (by omega), by rw [vI_nk (by omega), u2], by rw [vI_nk (by omega), hu'], by rw [vI_eq (by omega), if_pos rfl, t4, if_pos g3]⟩
            simp (disch := omega) only [fX6_step_87, fX6_step_98, fX6_step_114, qbI_s, qbL_s, qbV_s, qbR_s, qbR_n, qbN_s, qbN_n, qbIX_s, qbIX_n, qbVX_s, qbVX_n, cond_true, cond_false, cond_dec, jadd, jsub, jmul, jneg, li_0, li_1, li_2, li_3, li_4, li_5, li_6, li_7, li_8, li_9, li_10, li_14, li_15, li_16, li_19, li_20, li_24, li_30, li_31, li_32, li_39, li_40, li_48, li_57, li_59, li_60, li_63, li_65, li_80, li_81, li_90, li_97, li_99, li_100, li_122, li_126, li_127, li_150, li_160, li_200, li_225, li_255, li_400, li_799, li_800, li_999, li_2400, li_3239, li_3240, li_1048575, li_1431655765, li_858993459, li_252645135, eqb_j, ltb_j, leb_j, inb_j, ix_j, ix_n, nz_b, nz_0, nz_1, eqb_b, bnot, vI_ne, vI_eq, gIL, gLI, gIR, gRI, gLR, gRL, Int.reduceLT, Int.reduceLE, Int.reduceEq, Int.reduceAdd, Int.reduceSub, Int.reduceMul, Int.reduceNeg, Int.reduceToNat, Nat.reduceEqDiff, reduceIte, if_neg, if_pos, gI_ne, gIv 3, u2, hu']
          · refine wp_e (x := ()) (m := sI u 3 1 (Zi 4)) ?_ ⟨Fu.wI 3 1 _ (by omega), by rw [vI_nk (by omega), u2], by rw [vI_nk (by omega), hu'], by rw [vI_eq (by omega), if_pos rfl, t4, if_neg g3]⟩
            simp (disch := omega) only [fX6_step_87, fX6_step_98, fX6_step_114, qbI_s, qbL_s, qbV_s, qbR_s, qbR_n, qbN_s, qbN_n, qbIX_s, qbIX_n, qbVX_s, qbVX_n, cond_true, cond_false, cond_dec, jadd, jsub, jmul, jneg, li_0, li_1, li_2, li_3, li_4, li_5, li_6, li_7, li_8, li_9, li_10, li_14, li_15, li_16, li_19, li_20, li_24, li_30, li_31, li_32, li_39, li_40, li_48, li_57, li_59, li_60, li_63, li_65, li_80, li_81, li_90, li_97, li_99, li_100, li_122, li_126, li_127, li_150, li_160, li_200, li_225, li_255, li_400, li_799, li_800, li_999, li_2400, li_3239, li_3240, li_1048575, li_1431655765, li_858993459, li_252645135, eqb_j, ltb_j, leb_j, inb_j, ix_j, ix_n, nz_b, nz_0, nz_1, eqb_b, bnot, vI_ne, vI_eq, gIL, gLI, gIR, gRI, gLR, gRL, Int.reduceLT, Int.reduceLE, Int.reduceEq, Int.reduceAdd, Int.reduceSub, Int.reduceMul, Int.reduceNeg, Int.reduceToNat, Nat.reduceEqDiff, reduceIte, if_neg, if_pos, gI_ne, gIv 3, u2, hu']
        simp (disch := omega) only [fX6_step_24, qbI_s, qbL_s, qbV_s, qbR_s, qbR_n, qbN_s, qbN_n, qbIX_s, qbIX_n, qbVX_s, qbVX_n, cond_true, cond_false, cond_dec, jadd, jsub, jmul, jneg, li_0, li_1, li_2, li_3, li_4, li_5, li_6, li_7, li_8, li_9, li_10, li_14, li_15, li_16, li_19, li_20, li_24, li_30, li_31, li_32, li_39, li_40, li_48, li_57, li_59, li_60, li_63, li_65, li_80, li_81, li_90, li_97, li_99, li_100, li_122, li_126, li_127, li_150, li_160, li_200, li_225, li_255, li_400, li_799, li_800, li_999, li_2400, li_3239, li_3240, li_1048575, li_1431655765, li_858993459, li_252645135, eqb_j, ltb_j, leb_j, inb_j, ix_j, ix_n, nz_b, nz_0, nz_1, eqb_b, bnot, vI_ne, vI_eq, gIL, gLI, gIR, gRI, gLR, gRL, Int.reduceLT, Int.reduceLE, Int.reduceEq, Int.reduceAdd, Int.reduceSub, Int.reduceMul, Int.reduceNeg, Int.reduceToNat, Nat.reduceEqDiff, reduceIte, if_neg, if_pos, gI_ne, gIv 3, hw, hb, hs, hd, Int.reduceNeg, show (-1 : Int32) = Zi (-1) from rfl, show bI true = 1 from rfl, show bI false = 0 from rfl]
        exact nx
      · rw [decide_eq_false g2] at hd
        have c2 : ¬ dgtB d n f = true := by unfold dgtB; rw [decide_eq_false g2, Bool.and_false]; decide
        have tu : tU d n f = f + 1 := by rw [tU, if_neg g0, if_neg c1, if_neg c2]
        have t4 : tK d n f = if d f = 59 then 3 else 4 := by rw [tK, if_neg g0, if_neg c1, if_neg c2]
        by_cases g3 : d f = 59
        · refine wp_e (x := ()) (m := sI (sI (sI w 3 3 (Zi f)) 3 3 (Zi ((f : Int) + 1))) 3 1 (Zi 3)) ?_ ⟨(F9.wI 3 3 _ (by omega)).wI 3 1 _ (by omega), by rw [vI_nk (by omega), vI_nk (by omega), v2], by rw [vI_nk (by omega), vI_eq (by omega), if_pos rfl, tu]; omega, by rw [vI_eq (by omega), if_pos rfl, t4, if_pos g3]⟩
          simp (disch := omega) only [fX6_step_24, fX6_step_113, fX6_step_114, qbI_s, qbL_s, qbV_s, qbR_s, qbR_n, qbN_s, qbN_n, qbIX_s, qbIX_n, qbVX_s, qbVX_n, cond_true, cond_false, cond_dec, jadd, jsub, jmul, jneg, li_0, li_1, li_2, li_3, li_4, li_5, li_6, li_7, li_8, li_9, li_10, li_14, li_15, li_16, li_19, li_20, li_24, li_30, li_31, li_32, li_39, li_40, li_48, li_57, li_59, li_60, li_63, li_65, li_80, li_81, li_90, li_97, li_99, li_100, li_122, li_126, li_127, li_150, li_160, li_200, li_225, li_255, li_400, li_799, li_800, li_999, li_2400, li_3239, li_3240, li_1048575, li_1431655765, li_858993459, li_252645135, eqb_j, ltb_j, leb_j, inb_j, ix_j, ix_n, nz_b, nz_0, nz_1, eqb_b, bnot, vI_ne, vI_eq, gIL, gLI, gIR, gRI, gLR, gRL, Int.reduceLT, Int.reduceLE, Int.reduceEq, Int.reduceAdd, Int.reduceSub, Int.reduceMul, Int.reduceNeg, Int.reduceToNat, Nat.reduceEqDiff, reduceIte, if_neg, if_pos, gI_ne, gIv 3, hw, hb, hs, hd, v2, Int.reduceNeg, show (-1 : Int32) = Zi (-1) from rfl, show bI false = 0 from rfl]
        · refine wp_e (x := ()) (m := sI (sI (sI w 3 3 (Zi f)) 3 3 (Zi ((f : Int) + 1))) 3 1 (Zi 4)) ?_ ⟨(F9.wI 3 3 _ (by omega)).wI 3 1 _ (by omega), by rw [vI_nk (by omega), vI_nk (by omega), v2], by rw [vI_nk (by omega), vI_eq (by omega), if_pos rfl, tu]; omega, by rw [vI_eq (by omega), if_pos rfl, t4, if_neg g3]⟩
          simp (disch := omega) only [fX6_step_24, fX6_step_113, fX6_step_114, qbI_s, qbL_s, qbV_s, qbR_s, qbR_n, qbN_s, qbN_n, qbIX_s, qbIX_n, qbVX_s, qbVX_n, cond_true, cond_false, cond_dec, jadd, jsub, jmul, jneg, li_0, li_1, li_2, li_3, li_4, li_5, li_6, li_7, li_8, li_9, li_10, li_14, li_15, li_16, li_19, li_20, li_24, li_30, li_31, li_32, li_39, li_40, li_48, li_57, li_59, li_60, li_63, li_65, li_80, li_81, li_90, li_97, li_99, li_100, li_122, li_126, li_127, li_150, li_160, li_200, li_225, li_255, li_400, li_799, li_800, li_999, li_2400, li_3239, li_3240, li_1048575, li_1431655765, li_858993459, li_252645135, eqb_j, ltb_j, leb_j, inb_j, ix_j, ix_n, nz_b, nz_0, nz_1, eqb_b, bnot, vI_ne, vI_eq, gIL, gLI, gIR, gRI, gLR, gRL, Int.reduceLT, Int.reduceLE, Int.reduceEq, Int.reduceAdd, Int.reduceSub, Int.reduceMul, Int.reduceNeg, Int.reduceToNat, Nat.reduceEqDiff, reduceIte, if_neg, if_pos, gI_ne, gIv 3, hw, hb, hs, hd, v2, Int.reduceNeg, show (-1 : Int32) = Zi (-1) from rfl, show bI false = 0 from rfl]
