/-! the rules' words -/
theorem sg_wd {d : Nat → Int} {f u : Nat} (T s e j : Nat) (h1 : e - s = qTlen j) (h2 : ∀ i, i < qTlen j → tx T (s + i) = tx j i) : sgB d f u T s e = wdB d f u j := by
  unfold sgB wdB
  rw [h1]
  have e1 : decide (qTlen j = u - f) = decide (u - f = qTlen j) := by
    rw [Bool.eq_iff_iff, decide_eq_true_eq, decide_eq_true_eq]
    exact ⟨fun h => h.symm, fun h => h.symm⟩
  rw [e1]
  congr 1
  rw [Bool.eq_iff_iff, pd_iff, pd_iff]
  exact ⟨fun h i hi => by rw [← h i hi, h2 i hi], fun h i hi => by rw [h i hi, h2 i hi]⟩
theorem wo_0 (P : Nat → Nat → Bool) : woP 0 P (qTlen 0 + 1) 0 0 0 = if P 0 4 = true then 0 else if P 5 10 = true then 1 else if P 11 15 = true then 2 else if P 16 20 = true then 3 else if P 21 25 = true then 4 else if P 26 31 = true then 5 else -1 := rfl
noncomputable def keyV (d : Nat → Int) (f u : Nat) (K : Int) : Int := if K = 1 then (if wdB d f u 6 = true then 0 else if wdB d f u 7 = true then 1 else if wdB d f u 8 = true then 2 else if wdB d f u 9 = true then 3 else if wdB d f u 10 = true then 4 else if wdB d f u 11 = true then 5 else -1) else -1
theorem keyV_r (d : Nat → Int) (f u : Nat) (K : Int) : -1 ≤ keyV d f u K ∧ keyV d f u K ≤ 5 := by
  unfold keyV
  split
  · split
    · omega
    · split
      · omega
      · split
        · omega
        · split
          · omega
          · split
            · omega
            · split <;> omega
  · omega
theorem key_C (w : qM) (d : Nat → Int) (n : Nat) (hT : TC w d n) (f u : Nat) (K : Int) (h1 : vI w 3 1 = K) (h2 : vI w 3 2 = f) (h3 : vI w 3 3 = u) (hfu : f ≤ u ∧ u ≤ n) (hK : 0 ≤ K ∧ K ≤ 4) : fX6_wordOf 10100 w = some (Zi (keyV d f u K), w) := by
  have h := wordOf_s w d n hT f u K h1 h2 h3 hfu hK 0 (by decide)
  rw [wo_0, sg_wd 0 0 4 6 (by decide) (by decide), sg_wd 0 5 10 7 (by decide) (by decide), sg_wd 0 11 15 8 (by decide) (by decide), sg_wd 0 16 20 9 (by decide) (by decide), sg_wd 0 21 25 10 (by decide) (by decide), sg_wd 0 26 31 11 (by decide) (by decide)] at h
  exact h
theorem key_M (w : qM) (d : Nat → Int) (n : Nat) (hT : TM w d n) (f u : Nat) (K : Int) (h14 : vI w 98 14 = f) (h15 : vI w 98 15 = u) (h16 : vI w 98 16 = K) (hfu : f ≤ u ∧ u ≤ n) (hK : 0 ≤ K ∧ K ≤ 4) (hsm : K = 1 → ∀ i, f ≤ i → i < u → 97 ≤ d i ∧ d i ≤ 122) : fX13_key w = some (Zi (keyV d f u K), w) := by
  have hi := is_s w d n hT f u K h14 h15 h16 hfu hK hsm
  have i6 : fX13_is 10106 w = _ := hi 6 (by decide)
  have i7 : fX13_is 10107 w = _ := hi 7 (by decide)
  have i8 : fX13_is 10108 w = _ := hi 8 (by decide)
  have i9 : fX13_is 10109 w = _ := hi 9 (by decide)
  have i10 : fX13_is 10110 w = _ := hi 10 (by decide)
  have i11 : fX13_is 10111 w = _ := hi 11 (by decide)
  rw [fX13_key_d]
  unfold keyV
  by_cases g : K = 1
  · rw [decide_eq_true g, Bool.true_and] at i6 i7 i8 i9 i10 i11
    rw [if_pos g]
    cases c6 : wdB d f u 6
    · rw [c6] at i6
      cases c7 : wdB d f u 7
      · rw [c7] at i7
        cases c8 : wdB d f u 8
        · rw [c8] at i8
          cases c9 : wdB d f u 9
          · rw [c9] at i9
            cases c10 : wdB d f u 10
            · rw [c10] at i10
              cases c11 : wdB d f u 11
              · rw [c11] at i11
                simp (disch := omega) only [fX13_key_0, fX13_key_37, i6, i7, i8, i9, i10, i11, qbI_s, qbL_s, qbV_s, qbR_s, qbR_n, qbN_s, qbN_n, qbIX_s, qbIX_n, qbVX_s, qbVX_n, cond_true, cond_false, cond_dec, jadd, jsub, jmul, jneg, li_0, li_1, li_2, li_3, li_4, li_5, li_6, li_7, li_8, li_9, li_10, li_14, li_15, li_16, li_19, li_20, li_24, li_30, li_31, li_32, li_39, li_40, li_48, li_57, li_59, li_60, li_63, li_65, li_80, li_81, li_90, li_97, li_99, li_100, li_122, li_126, li_127, li_150, li_160, li_200, li_225, li_255, li_400, li_799, li_800, li_999, li_2400, li_3239, li_3240, li_1048575, li_1431655765, li_858993459, li_252645135, eqb_j, ltb_j, leb_j, inb_j, ix_j, ix_n, nz_b, nz_0, nz_1, eqb_b, bnot, vI_ne, vI_eq, gIL, gLI, gIR, gRI, gLR, gRL, Int.reduceLT, Int.reduceLE, Int.reduceEq, Int.reduceAdd, Int.reduceSub, Int.reduceMul, Int.reduceNeg, Int.reduceToNat, Nat.reduceEqDiff, reduceIte, if_neg, if_pos, gI_ne, show bI false = 0 from rfl, Bool.false_eq_true, show (-1 : Int32) = Zi (-1) from rfl]
              · rw [c11] at i11
                simp (disch := omega) only [fX13_key_0, fX13_key_37, i6, i7, i8, i9, i10, i11, qbI_s, qbL_s, qbV_s, qbR_s, qbR_n, qbN_s, qbN_n, qbIX_s, qbIX_n, qbVX_s, qbVX_n, cond_true, cond_false, cond_dec, jadd, jsub, jmul, jneg, li_0, li_1, li_2, li_3, li_4, li_5, li_6, li_7, li_8, li_9, li_10, li_14, li_15, li_16, li_19, li_20, li_24, li_30, li_31, li_32, li_39, li_40, li_48, li_57, li_59, li_60, li_63, li_65, li_80, li_81, li_90, li_97, li_99, li_100, li_122, li_126, li_127, li_150, li_160, li_200, li_225, li_255, li_400, li_799, li_800, li_999, li_2400, li_3239, li_3240, li_1048575, li_1431655765, li_858993459, li_252645135, eqb_j, ltb_j, leb_j, inb_j, ix_j, ix_n, nz_b, nz_0, nz_1, eqb_b, bnot, vI_ne, vI_eq, gIL, gLI, gIR, gRI, gLR, gRL, Int.reduceLT, Int.reduceLE, Int.reduceEq, Int.reduceAdd, Int.reduceSub, Int.reduceMul, Int.reduceNeg, Int.reduceToNat, Nat.reduceEqDiff, reduceIte, if_neg, if_pos, gI_ne, show bI false = 0 from rfl, show bI true = 1 from rfl, Bool.false_eq_true]
            · rw [c10] at i10
              simp (disch := omega) only [fX13_key_0, fX13_key_37, i6, i7, i8, i9, i10, qbI_s, qbL_s, qbV_s, qbR_s, qbR_n, qbN_s, qbN_n, qbIX_s, qbIX_n, qbVX_s, qbVX_n, cond_true, cond_false, cond_dec, jadd, jsub, jmul, jneg, li_0, li_1, li_2, li_3, li_4, li_5, li_6, li_7, li_8, li_9, li_10, li_14, li_15, li_16, li_19, li_20, li_24, li_30, li_31, li_32, li_39, li_40, li_48, li_57, li_59, li_60, li_63, li_65, li_80, li_81, li_90, li_97, li_99, li_100, li_122, li_126, li_127, li_150, li_160, li_200, li_225, li_255, li_400, li_799, li_800, li_999, li_2400, li_3239, li_3240, li_1048575, li_1431655765, li_858993459, li_252645135, eqb_j, ltb_j, leb_j, inb_j, ix_j, ix_n, nz_b, nz_0, nz_1, eqb_b, bnot, vI_ne, vI_eq, gIL, gLI, gIR, gRI, gLR, gRL, Int.reduceLT, Int.reduceLE, Int.reduceEq, Int.reduceAdd, Int.reduceSub, Int.reduceMul, Int.reduceNeg, Int.reduceToNat, Nat.reduceEqDiff, reduceIte, if_neg, if_pos, gI_ne, show bI false = 0 from rfl, show bI true = 1 from rfl, Bool.false_eq_true]
          · rw [c9] at i9
            simp (disch := omega) only [fX13_key_0, fX13_key_37, i6, i7, i8, i9, qbI_s, qbL_s, qbV_s, qbR_s, qbR_n, qbN_s, qbN_n, qbIX_s, qbIX_n, qbVX_s, qbVX_n, cond_true, cond_false, cond_dec, jadd, jsub, jmul, jneg, li_0, li_1, li_2, li_3, li_4, li_5, li_6, li_7, li_8, li_9, li_10, li_14, li_15, li_16, li_19, li_20, li_24, li_30, li_31, li_32, li_39, li_40, li_48, li_57, li_59, li_60, li_63, li_65, li_80, li_81, li_90, li_97, li_99, li_100, li_122, li_126, li_127, li_150, li_160, li_200, li_225, li_255, li_400, li_799, li_800, li_999, li_2400, li_3239, li_3240, li_1048575, li_1431655765, li_858993459, li_252645135, eqb_j, ltb_j, leb_j, inb_j, ix_j, ix_n, nz_b, nz_0, nz_1, eqb_b, bnot, vI_ne, vI_eq, gIL, gLI, gIR, gRI, gLR, gRL, Int.reduceLT, Int.reduceLE, Int.reduceEq, Int.reduceAdd, Int.reduceSub, Int.reduceMul, Int.reduceNeg, Int.reduceToNat, Nat.reduceEqDiff, reduceIte, if_neg, if_pos, gI_ne, show bI false = 0 from rfl, show bI true = 1 from rfl, Bool.false_eq_true]
        · rw [c8] at i8
          simp (disch := omega) only [fX13_key_0, fX13_key_37, i6, i7, i8, qbI_s, qbL_s, qbV_s, qbR_s, qbR_n, qbN_s, qbN_n, qbIX_s, qbIX_n, qbVX_s, qbVX_n, cond_true, cond_false, cond_dec, jadd, jsub, jmul, jneg, li_0, li_1, li_2, li_3, li_4, li_5, li_6, li_7, li_8, li_9, li_10, li_14, li_15, li_16, li_19, li_20, li_24, li_30, li_31, li_32, li_39, li_40, li_48, li_57, li_59, li_60, li_63, li_65, li_80, li_81, li_90, li_97, li_99, li_100, li_122, li_126, li_127, li_150, li_160, li_200, li_225, li_255, li_400, li_799, li_800, li_999, li_2400, li_3239, li_3240, li_1048575, li_1431655765, li_858993459, li_252645135, eqb_j, ltb_j, leb_j, inb_j, ix_j, ix_n, nz_b, nz_0, nz_1, eqb_b, bnot, vI_ne, vI_eq, gIL, gLI, gIR, gRI, gLR, gRL, Int.reduceLT, Int.reduceLE, Int.reduceEq, Int.reduceAdd, Int.reduceSub, Int.reduceMul, Int.reduceNeg, Int.reduceToNat, Nat.reduceEqDiff, reduceIte, if_neg, if_pos, gI_ne, show bI false = 0 from rfl, show bI true = 1 from rfl, Bool.false_eq_true]
      · rw [c7] at i7
        simp (disch := omega) only [fX13_key_0, fX13_key_37, i6, i7, qbI_s, qbL_s, qbV_s, qbR_s, qbR_n, qbN_s, qbN_n, qbIX_s, qbIX_n, qbVX_s, qbVX_n, cond_true, cond_false, cond_dec, jadd, jsub, jmul, jneg, li_0, li_1, li_2, li_3, li_4, li_5, li_6, li_7, li_8, li_9, li_10, li_14, li_15, li_16, li_19, li_20, li_24, li_30, li_31, li_32, li_39, li_40, li_48, li_57, li_59, li_60, li_63, li_65, li_80, li_81, li_90, li_97, li_99, li_100, li_122, li_126, li_127, li_150, li_160, li_200, li_225, li_255, li_400, li_799, li_800, li_999, li_2400, li_3239, li_3240, li_1048575, li_1431655765, li_858993459, li_252645135, eqb_j, ltb_j, leb_j, inb_j, ix_j, ix_n, nz_b, nz_0, nz_1, eqb_b, bnot, vI_ne, vI_eq, gIL, gLI, gIR, gRI, gLR, gRL, Int.reduceLT, Int.reduceLE, Int.reduceEq, Int.reduceAdd, Int.reduceSub, Int.reduceMul, Int.reduceNeg, Int.reduceToNat, Nat.reduceEqDiff, reduceIte, if_neg, if_pos, gI_ne, show bI false = 0 from rfl, show bI true = 1 from rfl, Bool.false_eq_true]
    · rw [c6] at i6
      simp (disch := omega) only [fX13_key_0, fX13_key_37, i6, qbI_s, qbL_s, qbV_s, qbR_s, qbR_n, qbN_s, qbN_n, qbIX_s, qbIX_n, qbVX_s, qbVX_n, cond_true, cond_false, cond_dec, jadd, jsub, jmul, jneg, li_0, li_1, li_2, li_3, li_4, li_5, li_6, li_7, li_8, li_9, li_10, li_14, li_15, li_16, li_19, li_20, li_24, li_30, li_31, li_32, li_39, li_40, li_48, li_57, li_59, li_60, li_63, li_65, li_80, li_81, li_90, li_97, li_99, li_100, li_122, li_126, li_127, li_150, li_160, li_200, li_225, li_255, li_400, li_799, li_800, li_999, li_2400, li_3239, li_3240, li_1048575, li_1431655765, li_858993459, li_252645135, eqb_j, ltb_j, leb_j, inb_j, ix_j, ix_n, nz_b, nz_0, nz_1, eqb_b, bnot, vI_ne, vI_eq, gIL, gLI, gIR, gRI, gLR, gRL, Int.reduceLT, Int.reduceLE, Int.reduceEq, Int.reduceAdd, Int.reduceSub, Int.reduceMul, Int.reduceNeg, Int.reduceToNat, Nat.reduceEqDiff, reduceIte, if_neg, if_pos, gI_ne, show bI true = 1 from rfl]
  · rw [decide_eq_false g, Bool.false_and] at i6 i7 i8 i9 i10 i11
    rw [if_neg g]
    simp (disch := omega) only [fX13_key_0, fX13_key_37, i6, i7, i8, i9, i10, i11, qbI_s, qbL_s, qbV_s, qbR_s, qbR_n, qbN_s, qbN_n, qbIX_s, qbIX_n, qbVX_s, qbVX_n, cond_true, cond_false, cond_dec, jadd, jsub, jmul, jneg, li_0, li_1, li_2, li_3, li_4, li_5, li_6, li_7, li_8, li_9, li_10, li_14, li_15, li_16, li_19, li_20, li_24, li_30, li_31, li_32, li_39, li_40, li_48, li_57, li_59, li_60, li_63, li_65, li_80, li_81, li_90, li_97, li_99, li_100, li_122, li_126, li_127, li_150, li_160, li_200, li_225, li_255, li_400, li_799, li_800, li_999, li_2400, li_3239, li_3240, li_1048575, li_1431655765, li_858993459, li_252645135, eqb_j, ltb_j, leb_j, inb_j, ix_j, ix_n, nz_b, nz_0, nz_1, eqb_b, bnot, vI_ne, vI_eq, gIL, gLI, gIR, gRI, gLR, gRL, Int.reduceLT, Int.reduceLE, Int.reduceEq, Int.reduceAdd, Int.reduceSub, Int.reduceMul, Int.reduceNeg, Int.reduceToNat, Nat.reduceEqDiff, reduceIte, if_neg, if_pos, gI_ne, show bI false = 0 from rfl, show (-1 : Int32) = Zi (-1) from rfl]
/-- a number in figures -/
theorem numC (w : qM) (d : Nat → Int) (n : Nat) (hT : TC w d n) (f u : Nat) (h3 : vI w 3 3 = u) (hfu : f ≤ u ∧ u ≤ n) (hu : u - f ≤ 3) (hd : ∀ i, f ≤ i → i < u → 48 ≤ d i ∧ d i ≤ 57) (lo hi : Int) (k : Int32 → qM → Option (Int32 × qM)) : ∀ (r i g : Nat), i + r = u → r < g → f ≤ i → fX6_takeNumber_15 k g (Zi lo) (Zi hi) (Zi (nV d f (i - f))) (Zi i) w = fX6_takeNumber_15 k (g - r) (Zi lo) (Zi hi) (Zi (nV d f (u - f))) (Zi u) w := by
  have hn := hT.2.1
  intro r
  induction r with
  | zero =>
    intro i g hi hg hf
    rw [Nat.add_zero] at hi
    rw [hi, Nat.sub_zero]
  | succ r ih =>
    intro i g hi hg hf
    obtain ⟨g, rfl⟩ : ∃ g', g = g' + 1 := ⟨g - 1, by omega⟩
    have hb := byC hT i (by omega)
    rw [if_pos (by omega)] at hb
    have hdi := hd i hf (by omega)
    have hr := nV_r d f (i - f) (by omega) (fun j hj => hd (f + j) (by omega) (by omega))
    have e4 : nV d f (i + 1 - f) = nV d f (i - f) * 10 + d i - 48 := by
      rw [show i + 1 - f = (i - f) + 1 by omega, nV, show f + (i - f) = i by omega, Int.mul_comm]
    have ih2 := ih (i + 1) g (by omega) (by omega) (by omega)
    rw [e4] at ih2
    rw [show g + 1 - (r + 1) = g - r by omega]
    refine Eq.trans ?_ ih2
    rw [fX6_takeNumber_15]
    simp (disch := omega) only [qbI_s, qbL_s, qbV_s, qbR_s, qbR_n, qbN_s, qbN_n, qbIX_s, qbIX_n, qbVX_s, qbVX_n, cond_true, cond_false, cond_dec, jadd, jsub, jmul, jneg, li_0, li_1, li_2, li_3, li_4, li_5, li_6, li_7, li_8, li_9, li_10, li_14, li_15, li_16, li_19, li_20, li_24, li_30, li_31, li_32, li_39, li_40, li_48, li_57, li_59, li_60, li_63, li_65, li_80, li_81, li_90, li_97, li_99, li_100, li_122, li_126, li_127, li_150, li_160, li_200, li_225, li_255, li_400, li_799, li_800, li_999, li_2400, li_3239, li_3240, li_1048575, li_1431655765, li_858993459, li_252645135, eqb_j, ltb_j, leb_j, inb_j, ix_j, ix_n, nz_b, nz_0, nz_1, eqb_b, bnot, vI_ne, vI_eq, gIL, gLI, gIR, gRI, gLR, gRL, Int.reduceLT, Int.reduceLE, Int.reduceEq, Int.reduceAdd, Int.reduceSub, Int.reduceMul, Int.reduceNeg, Int.reduceToNat, Nat.reduceEqDiff, reduceIte, if_neg, if_pos, gI_ne, gIv 3, h3, hb]
    rfl
