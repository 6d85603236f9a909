/-! a policy's condition, both machines -/
def cmpV (z : Int) : Int := if z = 0 then 1 else if z = 1 then -1 else 0
theorem woV3_r (d : Nat → Int) (f u : Nat) (K : Int) : woV 3 d f u K ≤ 2 := by
  rw [woV_3]
  split
  · split
    · omega
    · split
      · omega
      · split <;> omega
  · omega
theorem woV2_r (d : Nat → Int) (f u : Nat) (K : Int) : woV 2 d f u K ≤ 5 := by
  rw [woV_2]
  split
  · split
    · omega
    · split
      · omega
      · split
        · omega
        · split
          · omega
          · split
            · omega
            · split <;> omega
  · omega
theorem woV_K {T : Nat} {d : Nat → Int} {f u : Nat} {K : Int} (h : ¬ woV T d f u K = -1) : K = 1 := by
  unfold woV at h
  split at h
  · assumption
  · exact absurd rfl h
theorem cmp_M (a s : Int32) (w : qM) (d : Nat → Int) (n : Nat) (hT : TM w d n) (f u : Nat) (K : Int) (h14 : vI w 98 14 = f) (h15 : vI w 98 15 = u) (h16 : vI w 98 16 = K) (hfu : f ≤ u ∧ u ≤ n) (hK : 0 ≤ K ∧ K ≤ 4) (hsm : K = 1 → ∀ i, f ≤ i → i < u → 97 ≤ d i ∧ d i ≤ 122) (s0 : Int) (hs : 0 ≤ s0 ∧ s0 ≤ 5) (v : qM) (e : fX13_scan v = some ((), w)) : fX13_readCond_37 a (Zi s0) v = if woV 3 d f u K = -1 then some (none, sI (sI w 98 18 (Zi 1)) 98 19 (gI w 98 14)) else fX13_readCond_76 a (Zi s0) (Zi (cmpV (woV 3 d f u K))) w := by
  have hi := is_s w d n hT f u K h14 h15 h16 hfu hK hsm
  have i16 : fX13_is 10116 w = _ := hi 16 (by decide)
  have i17 : fX13_is 10117 w = _ := hi 17 (by decide)
  have i18 : fX13_is 10118 w = _ := hi 18 (by decide)
  rw [woV_3]
  by_cases g : K = 1
  · rw [decide_eq_true g, Bool.true_and] at i16 i17 i18
    rw [if_pos g]
    cases c16 : wdB d f u 16
    · rw [c16] at i16
      cases c17 : wdB d f u 17
      · rw [c17] at i17
        cases c18 : wdB d f u 18
        · rw [c18] at i18
          simp (disch := omega) only [fX13_readCond_37, fX13_readCond_63, e, i16, i17, i18, qbI_s, qbL_s, qbV_s, qbR_s, qbR_n, qbN_s, qbN_n, qbIX_s, qbIX_n, qbVX_s, qbVX_n, cond_true, cond_false, cond_dec, jadd, jsub, jmul, jneg, li_0, li_1, li_2, li_3, li_4, li_5, li_6, li_7, li_8, li_9, li_10, li_14, li_15, li_16, li_19, li_20, li_24, li_30, li_31, li_32, li_39, li_40, li_48, li_57, li_59, li_60, li_63, li_65, li_80, li_81, li_90, li_97, li_99, li_100, li_122, li_126, li_127, li_150, li_160, li_200, li_225, li_255, li_400, li_799, li_800, li_999, li_2400, li_3239, li_3240, li_1048575, li_1431655765, li_858993459, li_252645135, eqb_j, ltb_j, leb_j, inb_j, ix_j, ix_n, nz_b, nz_0, nz_1, eqb_b, bnot, vI_ne, vI_eq, gIL, gLI, gIR, gRI, gLR, gRL, Int.reduceLT, Int.reduceLE, Int.reduceEq, Int.reduceAdd, Int.reduceSub, Int.reduceMul, Int.reduceNeg, Int.reduceToNat, Nat.reduceEqDiff, reduceIte, if_neg, if_pos, gI_ne, show bI false = 0 from rfl, Bool.false_eq_true, show (-1 : Int32) = Zi (-1) from rfl, wrong_s, show Nat.beq 109 109 = true from rfl]
        · rw [c18] at i18
          simp (disch := omega) only [fX13_readCond_37, fX13_readCond_63, e, i16, i17, i18, qbI_s, qbL_s, qbV_s, qbR_s, qbR_n, qbN_s, qbN_n, qbIX_s, qbIX_n, qbVX_s, qbVX_n, cond_true, cond_false, cond_dec, jadd, jsub, jmul, jneg, li_0, li_1, li_2, li_3, li_4, li_5, li_6, li_7, li_8, li_9, li_10, li_14, li_15, li_16, li_19, li_20, li_24, li_30, li_31, li_32, li_39, li_40, li_48, li_57, li_59, li_60, li_63, li_65, li_80, li_81, li_90, li_97, li_99, li_100, li_122, li_126, li_127, li_150, li_160, li_200, li_225, li_255, li_400, li_799, li_800, li_999, li_2400, li_3239, li_3240, li_1048575, li_1431655765, li_858993459, li_252645135, eqb_j, ltb_j, leb_j, inb_j, ix_j, ix_n, nz_b, nz_0, nz_1, eqb_b, bnot, vI_ne, vI_eq, gIL, gLI, gIR, gRI, gLR, gRL, Int.reduceLT, Int.reduceLE, Int.reduceEq, Int.reduceAdd, Int.reduceSub, Int.reduceMul, Int.reduceNeg, Int.reduceToNat, Nat.reduceEqDiff, reduceIte, if_neg, if_pos, gI_ne, show bI false = 0 from rfl, show bI true = 1 from rfl, Bool.false_eq_true, show (-1 : Int32) = Zi (-1) from rfl]
          rfl
      · rw [c17] at i17
        simp (disch := omega) only [fX13_readCond_37, fX13_readCond_63, e, i16, i17, i18, qbI_s, qbL_s, qbV_s, qbR_s, qbR_n, qbN_s, qbN_n, qbIX_s, qbIX_n, qbVX_s, qbVX_n, cond_true, cond_false, cond_dec, jadd, jsub, jmul, jneg, li_0, li_1, li_2, li_3, li_4, li_5, li_6, li_7, li_8, li_9, li_10, li_14, li_15, li_16, li_19, li_20, li_24, li_30, li_31, li_32, li_39, li_40, li_48, li_57, li_59, li_60, li_63, li_65, li_80, li_81, li_90, li_97, li_99, li_100, li_122, li_126, li_127, li_150, li_160, li_200, li_225, li_255, li_400, li_799, li_800, li_999, li_2400, li_3239, li_3240, li_1048575, li_1431655765, li_858993459, li_252645135, eqb_j, ltb_j, leb_j, inb_j, ix_j, ix_n, nz_b, nz_0, nz_1, eqb_b, bnot, vI_ne, vI_eq, gIL, gLI, gIR, gRI, gLR, gRL, Int.reduceLT, Int.reduceLE, Int.reduceEq, Int.reduceAdd, Int.reduceSub, Int.reduceMul, Int.reduceNeg, Int.reduceToNat, Nat.reduceEqDiff, reduceIte, if_neg, if_pos, gI_ne, show bI false = 0 from rfl, show bI true = 1 from rfl, Bool.false_eq_true, show (-1 : Int32) = Zi (-1) from rfl]
        rfl
    · rw [c16] at i16
      simp (disch := omega) only [fX13_readCond_37, fX13_readCond_63, e, i16, i17, i18, qbI_s, qbL_s, qbV_s, qbR_s, qbR_n, qbN_s, qbN_n, qbIX_s, qbIX_n, qbVX_s, qbVX_n, cond_true, cond_false, cond_dec, jadd, jsub, jmul, jneg, li_0, li_1, li_2, li_3, li_4, li_5, li_6, li_7, li_8, li_9, li_10, li_14, li_15, li_16, li_19, li_20, li_24, li_30, li_31, li_32, li_39, li_40, li_48, li_57, li_59, li_60, li_63, li_65, li_80, li_81, li_90, li_97, li_99, li_100, li_122, li_126, li_127, li_150, li_160, li_200, li_225, li_255, li_400, li_799, li_800, li_999, li_2400, li_3239, li_3240, li_1048575, li_1431655765, li_858993459, li_252645135, eqb_j, ltb_j, leb_j, inb_j, ix_j, ix_n, nz_b, nz_0, nz_1, eqb_b, bnot, vI_ne, vI_eq, gIL, gLI, gIR, gRI, gLR, gRL, Int.reduceLT, Int.reduceLE, Int.reduceEq, Int.reduceAdd, Int.reduceSub, Int.reduceMul, Int.reduceNeg, Int.reduceToNat, Nat.reduceEqDiff, reduceIte, if_neg, if_pos, gI_ne, show bI true = 1 from rfl, show (-1 : Int32) = Zi (-1) from rfl]
      rfl
  · rw [decide_eq_false g, Bool.false_and] at i16 i17 i18
    rw [if_neg g]
    simp (disch := omega) only [fX13_readCond_37, fX13_readCond_63, e, i16, i17, i18, qbI_s, qbL_s, qbV_s, qbR_s, qbR_n, qbN_s, qbN_n, qbIX_s, qbIX_n, qbVX_s, qbVX_n, cond_true, cond_false, cond_dec, jadd, jsub, jmul, jneg, li_0, li_1, li_2, li_3, li_4, li_5, li_6, li_7, li_8, li_9, li_10, li_14, li_15, li_16, li_19, li_20, li_24, li_30, li_31, li_32, li_39, li_40, li_48, li_57, li_59, li_60, li_63, li_65, li_80, li_81, li_90, li_97, li_99, li_100, li_122, li_126, li_127, li_150, li_160, li_200, li_225, li_255, li_400, li_799, li_800, li_999, li_2400, li_3239, li_3240, li_1048575, li_1431655765, li_858993459, li_252645135, eqb_j, ltb_j, leb_j, inb_j, ix_j, ix_n, nz_b, nz_0, nz_1, eqb_b, bnot, vI_ne, vI_eq, gIL, gLI, gIR, gRI, gLR, gRL, Int.reduceLT, Int.reduceLE, Int.reduceEq, Int.reduceAdd, Int.reduceSub, Int.reduceMul, Int.reduceNeg, Int.reduceToNat, Nat.reduceEqDiff, reduceIte, if_neg, if_pos, gI_ne, show bI false = 0 from rfl, Bool.false_eq_true, show (-1 : Int32) = Zi (-1) from rfl, wrong_s, show Nat.beq 109 109 = true from rfl]
