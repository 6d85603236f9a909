/-! one line of a policy: what follows a condition, for the reference -/
noncomputable def aftDo (k5 : qM → Option (Option Int32 × qM)) (a1 : Int32) (m15 : qM) : Option (Option Int32 × qM) := qbVX (fX13_readAct a1 m15) (fun m17 => qbVX (fX13_close m17) (fun m19 => k5 (sI m19 101 4 (gI m19 101 4 + 1))) (fun m20 => some (none, m20))) (fun m18 => some (none, m18))
theorem more_s (v : qM) (d : Nat → Int) (n p : Nat) (hM : MT v d n p) (a N : Nat) (ha : 32 ≤ a ∧ a < 40) (hN : vI v 104 a = N) (hN4 : N ≤ 4) (k5 : qM → Option (Option Int32 × qM)) (g : Nat) : ∃ v2, MT v2 d n (tkN d n p) ∧ Fr (fun c k => c = 98 ∧ 14 ≤ k ∧ k ≤ 17) v v2 ∧ fX13_readPolicy_43 k5 (g + 1) (Zi a) v = if tkW 4 d n p = 1 then (if N = 4 then some (none, sI (sI v 98 18 (Zi 4)) 98 19 (gI v 98 14)) else qbVX (fX13_readCond (Zi a) v2) (fun m => fX13_readPolicy_43 k5 g (Zi a) m) (fun m => some (none, m))) else if tkW 4 d n p = 0 then aftDo k5 (Zi a) v2 else some (none, sI (sI v 98 18 (Zi 1)) 98 19 (gI v 98 14)) := by
  have b1 := tkN_r d n p hM.2.1
  obtain ⟨x, v2, e2, hM2, hF2⟩ := MT.of (p := tkN d n p) hM.1 hM.2.2.2.1 b1.2
  obtain ⟨i1, i2⟩ := andDo_M v d n p hM
  refine ⟨v2, hM2, hF2, ?_⟩
  rw [fX13_readPolicy_43]
  by_cases g1 : tkW 4 d n p = 1
  · rw [if_pos g1]
    rw [decide_eq_true g1] at i1
    by_cases g4 : N = 4
    · rw [if_pos g4]
      simp (disch := omega) only [i1, qbI_s, qbL_s, qbV_s, qbR_s, qbR_n, qbN_s, qbN_n, qbIX_s, qbIX_n, qbVX_s, qbVX_n, cond_true, cond_false, cond_dec, jadd, jsub, jmul, jneg, li_0, li_1, li_2, li_3, li_4, li_5, li_6, li_7, li_8, li_9, li_10, li_14, li_15, li_16, li_19, li_20, li_24, li_30, li_31, li_32, li_39, li_40, li_48, li_57, li_59, li_60, li_63, li_65, li_80, li_81, li_90, li_97, li_99, li_100, li_122, li_126, li_127, li_150, li_160, li_200, li_225, li_255, li_400, li_799, li_800, li_999, li_2400, li_3239, li_3240, li_1048575, li_1431655765, li_858993459, li_252645135, eqb_j, ltb_j, leb_j, inb_j, ix_j, ix_n, nz_b, nz_0, nz_1, eqb_b, bnot, vI_ne, vI_eq, gIL, gLI, gIR, gRI, gLR, gRL, Int.reduceLT, Int.reduceLE, Int.reduceEq, Int.reduceAdd, Int.reduceSub, Int.reduceMul, Int.reduceNeg, Int.reduceToNat, Nat.reduceEqDiff, reduceIte, if_neg, if_pos, gI_ne, gIv 104, hN, show bI true = 1 from rfl, wrong_s, show Nat.beq 109 109 = true from rfl]
    · rw [if_neg g4]
      simp (disch := omega) only [i1, qbI_s, qbL_s, qbV_s, qbR_s, qbR_n, qbN_s, qbN_n, qbIX_s, qbIX_n, qbVX_s, qbVX_n, cond_true, cond_false, cond_dec, jadd, jsub, jmul, jneg, li_0, li_1, li_2, li_3, li_4, li_5, li_6, li_7, li_8, li_9, li_10, li_14, li_15, li_16, li_19, li_20, li_24, li_30, li_31, li_32, li_39, li_40, li_48, li_57, li_59, li_60, li_63, li_65, li_80, li_81, li_90, li_97, li_99, li_100, li_122, li_126, li_127, li_150, li_160, li_200, li_225, li_255, li_400, li_799, li_800, li_999, li_2400, li_3239, li_3240, li_1048575, li_1431655765, li_858993459, li_252645135, eqb_j, ltb_j, leb_j, inb_j, ix_j, ix_n, nz_b, nz_0, nz_1, eqb_b, bnot, vI_ne, vI_eq, gIL, gLI, gIR, gRI, gLR, gRL, Int.reduceLT, Int.reduceLE, Int.reduceEq, Int.reduceAdd, Int.reduceSub, Int.reduceMul, Int.reduceNeg, Int.reduceToNat, Nat.reduceEqDiff, reduceIte, if_neg, if_pos, gI_ne, gIv 104, hN, show bI true = 1 from rfl, e2]
  · rw [if_neg g1]
    rw [decide_eq_false g1] at i1
    have i2 := i2 g1
    by_cases g0 : tkW 4 d n p = 0
    · rw [if_pos g0]
      rw [decide_eq_true g0] at i2
      simp (disch := omega) only [i1, qbI_s, qbL_s, qbV_s, qbR_s, qbR_n, qbN_s, qbN_n, qbIX_s, qbIX_n, qbVX_s, qbVX_n, cond_true, cond_false, cond_dec, jadd, jsub, jmul, jneg, li_0, li_1, li_2, li_3, li_4, li_5, li_6, li_7, li_8, li_9, li_10, li_14, li_15, li_16, li_19, li_20, li_24, li_30, li_31, li_32, li_39, li_40, li_48, li_57, li_59, li_60, li_63, li_65, li_80, li_81, li_90, li_97, li_99, li_100, li_122, li_126, li_127, li_150, li_160, li_200, li_225, li_255, li_400, li_799, li_800, li_999, li_2400, li_3239, li_3240, li_1048575, li_1431655765, li_858993459, li_252645135, eqb_j, ltb_j, leb_j, inb_j, ix_j, ix_n, nz_b, nz_0, nz_1, eqb_b, bnot, vI_ne, vI_eq, gIL, gLI, gIR, gRI, gLR, gRL, Int.reduceLT, Int.reduceLE, Int.reduceEq, Int.reduceAdd, Int.reduceSub, Int.reduceMul, Int.reduceNeg, Int.reduceToNat, Nat.reduceEqDiff, reduceIte, if_neg, if_pos, gI_ne, fX13_need_d, fX13_need_0, i2, show bI false = 0 from rfl, show bI true = 1 from rfl, e2]
      rfl
    · rw [if_neg g0]
      rw [decide_eq_false g0] at i2
      simp (disch := omega) only [i1, qbI_s, qbL_s, qbV_s, qbR_s, qbR_n, qbN_s, qbN_n, qbIX_s, qbIX_n, qbVX_s, qbVX_n, cond_true, cond_false, cond_dec, jadd, jsub, jmul, jneg, li_0, li_1, li_2, li_3, li_4, li_5, li_6, li_7, li_8, li_9, li_10, li_14, li_15, li_16, li_19, li_20, li_24, li_30, li_31, li_32, li_39, li_40, li_48, li_57, li_59, li_60, li_63, li_65, li_80, li_81, li_90, li_97, li_99, li_100, li_122, li_126, li_127, li_150, li_160, li_200, li_225, li_255, li_400, li_799, li_800, li_999, li_2400, li_3239, li_3240, li_1048575, li_1431655765, li_858993459, li_252645135, eqb_j, ltb_j, leb_j, inb_j, ix_j, ix_n, nz_b, nz_0, nz_1, eqb_b, bnot, vI_ne, vI_eq, gIL, gLI, gIR, gRI, gLR, gRL, Int.reduceLT, Int.reduceLE, Int.reduceEq, Int.reduceAdd, Int.reduceSub, Int.reduceMul, Int.reduceNeg, Int.reduceToNat, Nat.reduceEqDiff, reduceIte, if_neg, if_pos, gI_ne, fX13_need_d, fX13_need_0, i2, show bI false = 0 from rfl, wrong_s, show Nat.beq 109 109 = true from rfl]
