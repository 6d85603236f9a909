/-! words found in notes -/
def lwV (z : Int) : Int := if 65 ≤ z ∧ z ≤ 90 then z + 32 else z
def isL (z : Int) : Bool := decide (97 ≤ lwV z ∧ lwV z ≤ 122)
theorem lwV_r (z : Int) : z ≤ lwV z ∧ lwV z ≤ z + 32 := by
  unfold lwV
  split <;> omega
theorem smallC (z : Int) (h : -2147483648 ≤ z ∧ z < 2147483600) (m : qM) : fX2_small (Zi z) m = some (Zi (lwV z), m) := by
  rw [fX2_small_d]
  simp (disch := omega) only [fX2_small_0, fX2_small_10, qbI_s, qbL_s, qbV_s, qbR_s, qbR_n, qbN_s, qbN_n, qbIX_s, qbIX_n, qbVX_s, qbVX_n, cond_true, cond_false, cond_dec, jadd, jsub, jmul, jneg, li_0, li_1, li_2, li_3, li_4, li_5, li_6, li_7, li_8, li_9, li_10, li_14, li_15, li_16, li_19, li_20, li_24, li_30, li_31, li_32, li_39, li_40, li_48, li_57, li_59, li_60, li_63, li_65, li_80, li_81, li_90, li_97, li_99, li_100, li_122, li_126, li_127, li_150, li_160, li_200, li_225, li_255, li_400, li_799, li_800, li_999, li_2400, li_3239, li_3240, li_1048575, li_1431655765, li_858993459, li_252645135, eqb_j, ltb_j, leb_j, inb_j, ix_j, ix_n, nz_b, nz_0, nz_1, eqb_b, bnot, vI_ne, vI_eq, gIL, gLI, gIR, gRI, gLR, gRL, Int.reduceLT, Int.reduceLE, Int.reduceEq, Int.reduceAdd, Int.reduceSub, Int.reduceMul, Int.reduceNeg, Int.reduceToNat, Nat.reduceEqDiff, reduceIte, if_neg, if_pos, gI_ne, within_s]
  unfold lwV
  split <;> rfl
theorem letterC (z : Int) (h : -2147483648 ≤ z ∧ z < 2147483600) (m : qM) : fX2_isLetter (Zi z) m = some (Zi (bI (isL z)), m) := by
  have := lwV_r z
  rw [fX2_isLetter_d]
  simp (disch := omega) only [fX2_isLetter_0, smallC, qbI_s, qbL_s, qbV_s, qbR_s, qbR_n, qbN_s, qbN_n, qbIX_s, qbIX_n, qbVX_s, qbVX_n, cond_true, cond_false, cond_dec, jadd, jsub, jmul, jneg, li_0, li_1, li_2, li_3, li_4, li_5, li_6, li_7, li_8, li_9, li_10, li_14, li_15, li_16, li_19, li_20, li_24, li_30, li_31, li_32, li_39, li_40, li_48, li_57, li_59, li_60, li_63, li_65, li_80, li_81, li_90, li_97, li_99, li_100, li_122, li_126, li_127, li_150, li_160, li_200, li_225, li_255, li_400, li_799, li_800, li_999, li_2400, li_3239, li_3240, li_1048575, li_1431655765, li_858993459, li_252645135, eqb_j, ltb_j, leb_j, inb_j, ix_j, ix_n, nz_b, nz_0, nz_1, eqb_b, bnot, vI_ne, vI_eq, gIL, gLI, gIR, gRI, gLR, gRL, Int.reduceLT, Int.reduceLE, Int.reduceEq, Int.reduceAdd, Int.reduceSub, Int.reduceMul, Int.reduceNeg, Int.reduceToNat, Nat.reduceEqDiff, reduceIte, if_neg, if_pos, gI_ne, within_s, isL]
theorem smallM (z : Int) (h : -2147483648 ≤ z ∧ z < 2147483600) (m : qM) : fX13_small (Zi z) m = some (Zi (lwV z), m) := by
  rw [fX13_small_d]
  simp (disch := omega) only [fX13_small_0, fX13_small_10, fX13_small_11, qbI_s, qbL_s, qbV_s, qbR_s, qbR_n, qbN_s, qbN_n, qbIX_s, qbIX_n, qbVX_s, qbVX_n, cond_true, cond_false, cond_dec, jadd, jsub, jmul, jneg, li_0, li_1, li_2, li_3, li_4, li_5, li_6, li_7, li_8, li_9, li_10, li_14, li_15, li_16, li_19, li_20, li_24, li_30, li_31, li_32, li_39, li_40, li_48, li_57, li_59, li_60, li_63, li_65, li_80, li_81, li_90, li_97, li_99, li_100, li_122, li_126, li_127, li_150, li_160, li_200, li_225, li_255, li_400, li_799, li_800, li_999, li_2400, li_3239, li_3240, li_1048575, li_1431655765, li_858993459, li_252645135, eqb_j, ltb_j, leb_j, inb_j, ix_j, ix_n, nz_b, nz_0, nz_1, eqb_b, bnot, vI_ne, vI_eq, gIL, gLI, gIR, gRI, gLR, gRL, Int.reduceLT, Int.reduceLE, Int.reduceEq, Int.reduceAdd, Int.reduceSub, Int.reduceMul, Int.reduceNeg, Int.reduceToNat, Nat.reduceEqDiff, reduceIte, if_neg, if_pos, gI_ne]
  unfold lwV
  by_cases g1 : z < 65
  · rw [if_pos g1, if_neg (by omega)]
  · rw [if_neg g1]
    by_cases g2 : 90 < z
    · rw [if_pos g2, if_neg (by omega)]
    · rw [if_neg g2, if_pos (by omega)]
theorem isSmallM (z : Int) (h : -2147483648 ≤ z ∧ z < 2147483648) (m : qM) : fX13_isSmall (Zi z) m = some (Zi (bI (decide (97 ≤ z ∧ z ≤ 122))), m) := by
  rw [fX13_isSmall_d]
  simp (disch := omega) only [fX13_isSmall_0, fX13_isSmall_8, fX13_isSmall_9, qbI_s, qbL_s, qbV_s, qbR_s, qbR_n, qbN_s, qbN_n, qbIX_s, qbIX_n, qbVX_s, qbVX_n, cond_true, cond_false, cond_dec, jadd, jsub, jmul, jneg, li_0, li_1, li_2, li_3, li_4, li_5, li_6, li_7, li_8, li_9, li_10, li_14, li_15, li_16, li_19, li_20, li_24, li_30, li_31, li_32, li_39, li_40, li_48, li_57, li_59, li_60, li_63, li_65, li_80, li_81, li_90, li_97, li_99, li_100, li_122, li_126, li_127, li_150, li_160, li_200, li_225, li_255, li_400, li_799, li_800, li_999, li_2400, li_3239, li_3240, li_1048575, li_1431655765, li_858993459, li_252645135, eqb_j, ltb_j, leb_j, inb_j, ix_j, ix_n, nz_b, nz_0, nz_1, eqb_b, bnot, vI_ne, vI_eq, gIL, gLI, gIR, gRI, gLR, gRL, Int.reduceLT, Int.reduceLE, Int.reduceEq, Int.reduceAdd, Int.reduceSub, Int.reduceMul, Int.reduceNeg, Int.reduceToNat, Nat.reduceEqDiff, reduceIte, if_neg, if_pos, gI_ne, bI_dec]
  by_cases g1 : z < 97
  · rw [if_pos g1, if_neg (by omega)]
  · rw [if_neg g1]
    by_cases g2 : 122 < z
    · rw [if_pos g2, if_neg (by omega)]
    · rw [if_neg g2, if_pos (by omega)]
/-- a letter in a note; a word in it from a place on -/
noncomputable def LA (d : Nat → Nat → Int) (a : Nat) (i : Int) : Bool := decide (0 ≤ i ∧ i < d 151 a) && isL (d 153 (60 * a + i.toNat))
noncomputable def wAt (d : Nat → Nat → Int) (a n s : Nat) : Prop := (∀ k, k < n → LA d a ((s : Int) + k) = true ∧ lwV (d 153 (60 * a + s + k)) = lwV (d 110 k)) ∧ LA d a ((s : Int) + n) = false ∧ LA d a ((s : Int) - 1) = false
noncomputable def hwB (d : Nat → Nat → Int) (a n : Nat) : Bool := pd (∃ s : Nat, wAt d a n s)
def NOk (m : qM) : Prop := (∀ a, a < 40 → 0 ≤ vI m 151 a ∧ vI m 151 a ≤ 60) ∧ (∀ k, k < 2400 → 0 ≤ vI m 153 k ∧ vI m 153 k ≤ 126) ∧ (∀ k, k < 400 → -128 ≤ vI m 110 k ∧ vI m 110 k < 128)
theorem letterAt_s (m : qM) (hN : NOk m) (a : Nat) (ha : a < 40) (i : Int) (hi : -2147483648 ≤ i ∧ i < 2147483648) : fX13_isLetterAt (Zi a) (Zi i) m = some (Zi (bI (LA (vI m) a i)), m) := by
  have h1 := hN.1 a ha
  rw [fX13_isLetterAt_d]
  unfold LA
  by_cases g : 0 ≤ i ∧ i < vI m 151 a
  · have h2 := hN.2.1 (60 * a + i.toNat) (by omega)
    have i1 : (60 * (a : Int) + i).toNat = 60 * a + i.toNat := by omega
    have hl := lwV_r (vI m 153 (60 * a + i.toNat))
    rw [decide_eq_true g, Bool.true_and]
    simp (disch := omega) only [fX13_isLetterAt_0, fX13_isLetterAt_25, fX13_isLetterAt_26, qbI_s, qbL_s, qbV_s, qbR_s, qbR_n, qbN_s, qbN_n, qbIX_s, qbIX_n, qbVX_s, qbVX_n, cond_true, cond_false, cond_dec, jadd, jsub, jmul, jneg, li_0, li_1, li_2, li_3, li_4, li_5, li_6, li_7, li_8, li_9, li_10, li_14, li_15, li_16, li_19, li_20, li_24, li_30, li_31, li_32, li_39, li_40, li_48, li_57, li_59, li_60, li_63, li_65, li_80, li_81, li_90, li_97, li_99, li_100, li_122, li_126, li_127, li_150, li_160, li_200, li_225, li_255, li_400, li_799, li_800, li_999, li_2400, li_3239, li_3240, li_1048575, li_1431655765, li_858993459, li_252645135, eqb_j, ltb_j, leb_j, inb_j, ix_j, ix_n, nz_b, nz_0, nz_1, eqb_b, bnot, vI_ne, vI_eq, gIL, gLI, gIR, gRI, gLR, gRL, Int.reduceLT, Int.reduceLE, Int.reduceEq, Int.reduceAdd, Int.reduceSub, Int.reduceMul, Int.reduceNeg, Int.reduceToNat, Nat.reduceEqDiff, reduceIte, if_neg, if_pos, gI_ne, ll_0, ll_1, ll_3, ll_5, ll_9, ll_10, ll_13, ll_14, ll_19, ll_20, ll_32, ll_60, ll_126, ll_799, ll_1024, ll_1048576, ll_67108864, Zladd, Zlsub, Zlmul, Zlneg, toL, lg_lt, lg_gt, lg_le, gIv 151, gIv 153, i1, in_s, smallM, isSmallM]
    unfold isL
    by_cases g2 : 97 ≤ lwV (vI m 153 (60 * a + i.toNat)) ∧ lwV (vI m 153 (60 * a + i.toNat)) ≤ 122
    · rw [if_pos g2, decide_eq_true g2]
      rfl
    · rw [if_neg g2, decide_eq_false g2]
      rfl
  · rw [decide_eq_false g, Bool.false_and]
    simp (disch := omega) only [fX13_isLetterAt_0, fX13_isLetterAt_25, fX13_isLetterAt_26, qbI_s, qbL_s, qbV_s, qbR_s, qbR_n, qbN_s, qbN_n, qbIX_s, qbIX_n, qbVX_s, qbVX_n, cond_true, cond_false, cond_dec, jadd, jsub, jmul, jneg, li_0, li_1, li_2, li_3, li_4, li_5, li_6, li_7, li_8, li_9, li_10, li_14, li_15, li_16, li_19, li_20, li_24, li_30, li_31, li_32, li_39, li_40, li_48, li_57, li_59, li_60, li_63, li_65, li_80, li_81, li_90, li_97, li_99, li_100, li_122, li_126, li_127, li_150, li_160, li_200, li_225, li_255, li_400, li_799, li_800, li_999, li_2400, li_3239, li_3240, li_1048575, li_1431655765, li_858993459, li_252645135, eqb_j, ltb_j, leb_j, inb_j, ix_j, ix_n, nz_b, nz_0, nz_1, eqb_b, bnot, vI_ne, vI_eq, gIL, gLI, gIR, gRI, gLR, gRL, Int.reduceLT, Int.reduceLE, Int.reduceEq, Int.reduceAdd, Int.reduceSub, Int.reduceMul, Int.reduceNeg, Int.reduceToNat, Nat.reduceEqDiff, reduceIte, if_neg, if_pos, gI_ne, ll_0, ll_1, ll_3, ll_5, ll_9, ll_10, ll_13, ll_14, ll_19, ll_20, ll_32, ll_60, ll_126, ll_799, ll_1024, ll_1048576, ll_67108864, Zladd, Zlsub, Zlmul, Zlneg, toL, lg_lt, lg_gt, lg_le, gIv 151, in_s]
    rfl
def mK (p : Nat → Bool) : Nat → Nat → Nat
  | k, 0 => k
  | k, r + 1 => if p k then mK p (k + 1) r else k
theorem mK_spec (p : Nat → Bool) : ∀ r k, k ≤ mK p k r ∧ mK p k r ≤ k + r ∧ (∀ j, k ≤ j → j < mK p k r → p j = true) ∧ (mK p k r = k + r ∨ p (mK p k r) = false)
  | 0, k => ⟨Nat.le_refl _, Nat.le_refl _, fun j h1 h2 => by unfold mK at h2; omega, Or.inl rfl⟩
  | r + 1, k => by
    unfold mK
    cases h : p k
    · rw [if_neg (by decide)]
      exact ⟨Nat.le_refl _, by omega, fun j h1 h2 => by omega, Or.inr h⟩
    · rw [if_pos rfl]
      obtain ⟨h1, h2, h3, h4⟩ := mK_spec p r (k + 1)
      refine ⟨by omega, by omega, fun j g1 g2 => ?_, ?_⟩
      · by_cases e : j = k
        · rw [e]; exact h
        · exact h3 j (by omega) g2
      · rcases h4 with h4 | h4
        · left; omega
        · exact Or.inr h4
noncomputable def mtB (d : Nat → Nat → Int) (a i k : Nat) : Bool := LA d a ((i : Int) + k) && decide (lwV (d 153 (60 * a + i + k)) = lwV (d 110 k))
theorem hasIn (m : qM) (hN : NOk m) (a : Nat) (ha : a < 40) (n : Nat) (hn : vI m 98 13 = n) (hn2 : n ≤ 20) (i : Nat) (hi : i ≤ 60) (k53 : Int32 → Int32 → Int32 → qM → Option (Int32 × qM)) : ∀ (r k g : Nat), k + r = n → r < g → fX13_hasWord_23 k53 g (Zi a) (Zi i) (Zi k) m = k53 (Zi a) (Zi i) (Zi (mK (mtB (vI m) a i) k r)) m := by
  intro r
  induction r with
  | zero =>
    intro k g hk hg
    obtain ⟨g, rfl⟩ : ∃ g', g = g' + 1 := ⟨g - 1, by omega⟩
    simp (disch := omega) only [fX13_hasWord_23, qbI_s, qbL_s, qbV_s, qbR_s, qbR_n, qbN_s, qbN_n, qbIX_s, qbIX_n, qbVX_s, qbVX_n, cond_true, cond_false, cond_dec, jadd, jsub, jmul, jneg, li_0, li_1, li_2, li_3, li_4, li_5, li_6, li_7, li_8, li_9, li_10, li_14, li_15, li_16, li_19, li_20, li_24, li_30, li_31, li_32, li_39, li_40, li_48, li_57, li_59, li_60, li_63, li_65, li_80, li_81, li_90, li_97, li_99, li_100, li_122, li_126, li_127, li_150, li_160, li_200, li_225, li_255, li_400, li_799, li_800, li_999, li_2400, li_3239, li_3240, li_1048575, li_1431655765, li_858993459, li_252645135, eqb_j, ltb_j, leb_j, inb_j, ix_j, ix_n, nz_b, nz_0, nz_1, eqb_b, bnot, vI_ne, vI_eq, gIL, gLI, gIR, gRI, gLR, gRL, Int.reduceLT, Int.reduceLE, Int.reduceEq, Int.reduceAdd, Int.reduceSub, Int.reduceMul, Int.reduceNeg, Int.reduceToNat, Nat.reduceEqDiff, reduceIte, if_neg, if_pos, gI_ne, gIv 98, hn]
    rfl
  | succ r ih =>
    intro k g hk hg
    obtain ⟨g, rfl⟩ : ∃ g', g = g' + 1 := ⟨g - 1, by omega⟩
    have ih2 := ih (k + 1) g (by omega) (by omega)
    have hla := letterAt_s m hN a ha ((i : Int) + k) (by omega)
    unfold mK
    cases h : LA (vI m) a ((i : Int) + k)
    · rw [h] at hla
      rw [show mtB (vI m) a i k = false by unfold mtB; rw [h, Bool.false_and]]
      simp (disch := omega) only [fX13_hasWord_23, qbI_s, qbL_s, qbV_s, qbR_s, qbR_n, qbN_s, qbN_n, qbIX_s, qbIX_n, qbVX_s, qbVX_n, cond_true, cond_false, cond_dec, jadd, jsub, jmul, jneg, li_0, li_1, li_2, li_3, li_4, li_5, li_6, li_7, li_8, li_9, li_10, li_14, li_15, li_16, li_19, li_20, li_24, li_30, li_31, li_32, li_39, li_40, li_48, li_57, li_59, li_60, li_63, li_65, li_80, li_81, li_90, li_97, li_99, li_100, li_122, li_126, li_127, li_150, li_160, li_200, li_225, li_255, li_400, li_799, li_800, li_999, li_2400, li_3239, li_3240, li_1048575, li_1431655765, li_858993459, li_252645135, eqb_j, ltb_j, leb_j, inb_j, ix_j, ix_n, nz_b, nz_0, nz_1, eqb_b, bnot, vI_ne, vI_eq, gIL, gLI, gIR, gRI, gLR, gRL, Int.reduceLT, Int.reduceLE, Int.reduceEq, Int.reduceAdd, Int.reduceSub, Int.reduceMul, Int.reduceNeg, Int.reduceToNat, Nat.reduceEqDiff, reduceIte, if_neg, if_pos, gI_ne, gIv 98, hn, hla, show bI false = 0 from rfl, Bool.false_eq_true]
    · rw [h] at hla
      have hlt : (i : Int) + k < vI m 151 a := by
        unfold LA at h
        rw [Bool.and_eq_true, decide_eq_true_eq] at h
        exact h.1.2
      have h60 := hN.1 a ha
      have h2 := hN.2.1 (60 * a + i + k) (by omega)
      have h3 := hN.2.2 k (by omega)
      have l1 := lwV_r (vI m 153 (60 * a + i + k))
      have l2 := lwV_r (vI m 110 k)
      have i1 : (60 * (a : Int) + i + k).toNat = 60 * a + i + k := by omega
      by_cases e : lwV (vI m 153 (60 * a + i + k)) = lwV (vI m 110 k)
      · rw [show mtB (vI m) a i k = true by unfold mtB; rw [h, decide_eq_true e]; rfl, if_pos rfl]
        simp (disch := omega) only [fX13_hasWord_23, qbI_s, qbL_s, qbV_s, qbR_s, qbR_n, qbN_s, qbN_n, qbIX_s, qbIX_n, qbVX_s, qbVX_n, cond_true, cond_false, cond_dec, jadd, jsub, jmul, jneg, li_0, li_1, li_2, li_3, li_4, li_5, li_6, li_7, li_8, li_9, li_10, li_14, li_15, li_16, li_19, li_20, li_24, li_30, li_31, li_32, li_39, li_40, li_48, li_57, li_59, li_60, li_63, li_65, li_80, li_81, li_90, li_97, li_99, li_100, li_122, li_126, li_127, li_150, li_160, li_200, li_225, li_255, li_400, li_799, li_800, li_999, li_2400, li_3239, li_3240, li_1048575, li_1431655765, li_858993459, li_252645135, eqb_j, ltb_j, leb_j, inb_j, ix_j, ix_n, nz_b, nz_0, nz_1, eqb_b, bnot, vI_ne, vI_eq, gIL, gLI, gIR, gRI, gLR, gRL, Int.reduceLT, Int.reduceLE, Int.reduceEq, Int.reduceAdd, Int.reduceSub, Int.reduceMul, Int.reduceNeg, Int.reduceToNat, Nat.reduceEqDiff, reduceIte, if_neg, if_pos, gI_ne, gIv 98, hn, hla, show bI true = 1 from rfl, gIv 153, gIv 110, i1, smallM]
        exact ih2
      · rw [show mtB (vI m) a i k = false by unfold mtB; rw [decide_eq_false e, Bool.and_false], if_neg (by decide)]
        simp (disch := omega) only [fX13_hasWord_23, qbI_s, qbL_s, qbV_s, qbR_s, qbR_n, qbN_s, qbN_n, qbIX_s, qbIX_n, qbVX_s, qbVX_n, cond_true, cond_false, cond_dec, jadd, jsub, jmul, jneg, li_0, li_1, li_2, li_3, li_4, li_5, li_6, li_7, li_8, li_9, li_10, li_14, li_15, li_16, li_19, li_20, li_24, li_30, li_31, li_32, li_39, li_40, li_48, li_57, li_59, li_60, li_63, li_65, li_80, li_81, li_90, li_97, li_99, li_100, li_122, li_126, li_127, li_150, li_160, li_200, li_225, li_255, li_400, li_799, li_800, li_999, li_2400, li_3239, li_3240, li_1048575, li_1431655765, li_858993459, li_252645135, eqb_j, ltb_j, leb_j, inb_j, ix_j, ix_n, nz_b, nz_0, nz_1, eqb_b, bnot, vI_ne, vI_eq, gIL, gLI, gIR, gRI, gLR, gRL, Int.reduceLT, Int.reduceLE, Int.reduceEq, Int.reduceAdd, Int.reduceSub, Int.reduceMul, Int.reduceNeg, Int.reduceToNat, Nat.reduceEqDiff, reduceIte, if_neg, if_pos, gI_ne, gIv 98, hn, hla, show bI true = 1 from rfl, gIv 153, gIv 110, i1, smallM]
theorem hasWord_s (m : qM) (hN : NOk m) (a : Nat) (ha : a < 40) (n : Nat) (hn : vI m 98 13 = n) (hn2 : 1 ≤ n ∧ n ≤ 20) : fX13_hasWord (Zi a) m = some (Zi (bI (hwB (vI m) a n)), m) := by
  have h60 := hN.1 a ha
  have key : ∀ (r i g : Nat), i + r = (vI m 151 a).toNat → r < g → fX13_hasWord_2 g (Zi a) (Zi i) m = some (Zi (bI (pd (∃ s : Nat, i ≤ s ∧ wAt (vI m) a n s))), m) := by
    intro r
    induction r with
    | zero =>
      intro i g hi hg
      obtain ⟨g, rfl⟩ : ∃ g', g = g' + 1 := ⟨g - 1, by omega⟩
      rw [pd_f (fun ⟨s, h1, h2, h3⟩ => by
        have := (h2 0 (by omega)).1
        unfold LA at this
        rw [Bool.and_eq_true, decide_eq_true_eq] at this
        omega)]
      simp (disch := omega) only [fX13_hasWord_2, qbI_s, qbL_s, qbV_s, qbR_s, qbR_n, qbN_s, qbN_n, qbIX_s, qbIX_n, qbVX_s, qbVX_n, cond_true, cond_false, cond_dec, jadd, jsub, jmul, jneg, li_0, li_1, li_2, li_3, li_4, li_5, li_6, li_7, li_8, li_9, li_10, li_14, li_15, li_16, li_19, li_20, li_24, li_30, li_31, li_32, li_39, li_40, li_48, li_57, li_59, li_60, li_63, li_65, li_80, li_81, li_90, li_97, li_99, li_100, li_122, li_126, li_127, li_150, li_160, li_200, li_225, li_255, li_400, li_799, li_800, li_999, li_2400, li_3239, li_3240, li_1048575, li_1431655765, li_858993459, li_252645135, eqb_j, ltb_j, leb_j, inb_j, ix_j, ix_n, nz_b, nz_0, nz_1, eqb_b, bnot, vI_ne, vI_eq, gIL, gLI, gIR, gRI, gLR, gRL, Int.reduceLT, Int.reduceLE, Int.reduceEq, Int.reduceAdd, Int.reduceSub, Int.reduceMul, Int.reduceNeg, Int.reduceToNat, Nat.reduceEqDiff, reduceIte, if_neg, if_pos, gI_ne, gIv 151]
      rfl
    | succ r ih =>
      intro i g hi hg
      obtain ⟨g, rfl⟩ : ∃ g', g = g' + 1 := ⟨g - 1, by omega⟩
      have ih2 := ih (i + 1) g (by omega) (by omega)
      have l0 := letterAt_s m hN a ha i (by omega)
      have l1 := letterAt_s m hN a ha ((i : Int) - 1) (by omega)
      have skip : ¬ wAt (vI m) a n i → pd (∃ s : Nat, i ≤ s ∧ wAt (vI m) a n s) = pd (∃ s : Nat, i + 1 ≤ s ∧ wAt (vI m) a n s) := fun hs => by
        rw [Bool.eq_iff_iff, pd_iff, pd_iff]
        constructor
        · rintro ⟨s, h1, h2⟩
          by_cases e : s = i
          · rw [e] at h2; exact absurd h2 hs
          · exact ⟨s, by omega, h2⟩
        · rintro ⟨s, h1, h2⟩
          exact ⟨s, by omega, h2⟩
      cases c0 : LA (vI m) a i
      · rw [skip (fun h => by
          have := (h.1 0 (by omega)).1
          rw [show ((i : Int) + (0 : Nat)) = (i : Int) by omega, c0] at this
          cases this)]
        rw [c0] at l0
        simp (disch := omega) only [fX13_hasWord_2, fX13_hasWord_66, qbI_s, qbL_s, qbV_s, qbR_s, qbR_n, qbN_s, qbN_n, qbIX_s, qbIX_n, qbVX_s, qbVX_n, cond_true, cond_false, cond_dec, jadd, jsub, jmul, jneg, li_0, li_1, li_2, li_3, li_4, li_5, li_6, li_7, li_8, li_9, li_10, li_14, li_15, li_16, li_19, li_20, li_24, li_30, li_31, li_32, li_39, li_40, li_48, li_57, li_59, li_60, li_63, li_65, li_80, li_81, li_90, li_97, li_99, li_100, li_122, li_126, li_127, li_150, li_160, li_200, li_225, li_255, li_400, li_799, li_800, li_999, li_2400, li_3239, li_3240, li_1048575, li_1431655765, li_858993459, li_252645135, eqb_j, ltb_j, leb_j, inb_j, ix_j, ix_n, nz_b, nz_0, nz_1, eqb_b, bnot, vI_ne, vI_eq, gIL, gLI, gIR, gRI, gLR, gRL, Int.reduceLT, Int.reduceLE, Int.reduceEq, Int.reduceAdd, Int.reduceSub, Int.reduceMul, Int.reduceNeg, Int.reduceToNat, Nat.reduceEqDiff, reduceIte, if_neg, if_pos, gI_ne, gIv 151, l0, show bI false = 0 from rfl]
        exact ih2
      · rw [c0] at l0
        cases c1 : LA (vI m) a ((i : Int) - 1)
        · rw [c1] at l1
          have hin := hasIn m hN a ha n hn hn2.2 i (by omega) (fX13_hasWord_53 (fX13_hasWord_2 g)) n 0 FU (by omega) (by rw [FU_d]; omega)
          obtain ⟨s1, s2, s3, s4⟩ := mK_spec (mtB (vI m) a i) n 0
          have ln := letterAt_s m hN a ha ((i : Int) + (mK (mtB (vI m) a i) 0 n : Nat)) (by omega)
          have comm : fX13_hasWord_2 (g + 1) (Zi a) (Zi i) m = fX13_hasWord_53 (fX13_hasWord_2 g) (Zi a) (Zi i) (Zi (mK (mtB (vI m) a i) 0 n)) m := by
            rw [← hin]
            simp (disch := omega) only [fX13_hasWord_2, qbI_s, qbL_s, qbV_s, qbR_s, qbR_n, qbN_s, qbN_n, qbIX_s, qbIX_n, qbVX_s, qbVX_n, cond_true, cond_false, cond_dec, jadd, jsub, jmul, jneg, li_0, li_1, li_2, li_3, li_4, li_5, li_6, li_7, li_8, li_9, li_10, li_14, li_15, li_16, li_19, li_20, li_24, li_30, li_31, li_32, li_39, li_40, li_48, li_57, li_59, li_60, li_63, li_65, li_80, li_81, li_90, li_97, li_99, li_100, li_122, li_126, li_127, li_150, li_160, li_200, li_225, li_255, li_400, li_799, li_800, li_999, li_2400, li_3239, li_3240, li_1048575, li_1431655765, li_858993459, li_252645135, eqb_j, ltb_j, leb_j, inb_j, ix_j, ix_n, nz_b, nz_0, nz_1, eqb_b, bnot, vI_ne, vI_eq, gIL, gLI, gIR, gRI, gLR, gRL, Int.reduceLT, Int.reduceLE, Int.reduceEq, Int.reduceAdd, Int.reduceSub, Int.reduceMul, Int.reduceNeg, Int.reduceToNat, Nat.reduceEqDiff, reduceIte, if_neg, if_pos, gI_ne, gIv 151, l0, l1, show bI false = 0 from rfl, show bI true = 1 from rfl]
            rfl
          rw [comm]
          by_cases hall : mK (mtB (vI m) a i) 0 n = n
          · rw [hall] at ln s3 ⊢
            cases c2 : LA (vI m) a ((i : Int) + n)
            · rw [c2] at ln
              rw [pd_t ⟨i, Nat.le_refl _, fun k hk => by
                have := s3 k (Nat.zero_le _) hk
                unfold mtB at this
                rw [Bool.and_eq_true, decide_eq_true_eq] at this
                exact this, c2, c1⟩]
              simp (disch := omega) only [fX13_hasWord_53, qbI_s, qbL_s, qbV_s, qbR_s, qbR_n, qbN_s, qbN_n, qbIX_s, qbIX_n, qbVX_s, qbVX_n, cond_true, cond_false, cond_dec, jadd, jsub, jmul, jneg, li_0, li_1, li_2, li_3, li_4, li_5, li_6, li_7, li_8, li_9, li_10, li_14, li_15, li_16, li_19, li_20, li_24, li_30, li_31, li_32, li_39, li_40, li_48, li_57, li_59, li_60, li_63, li_65, li_80, li_81, li_90, li_97, li_99, li_100, li_122, li_126, li_127, li_150, li_160, li_200, li_225, li_255, li_400, li_799, li_800, li_999, li_2400, li_3239, li_3240, li_1048575, li_1431655765, li_858993459, li_252645135, eqb_j, ltb_j, leb_j, inb_j, ix_j, ix_n, nz_b, nz_0, nz_1, eqb_b, bnot, vI_ne, vI_eq, gIL, gLI, gIR, gRI, gLR, gRL, Int.reduceLT, Int.reduceLE, Int.reduceEq, Int.reduceAdd, Int.reduceSub, Int.reduceMul, Int.reduceNeg, Int.reduceToNat, Nat.reduceEqDiff, reduceIte, if_neg, if_pos, gI_ne, gIv 98, hn, ln, show bI false = 0 from rfl]
              rfl
            · rw [c2] at ln
              rw [skip (fun h => by rw [h.2.1] at c2; cases c2)]
              simp (disch := omega) only [fX13_hasWord_53, fX13_hasWord_66, qbI_s, qbL_s, qbV_s, qbR_s, qbR_n, qbN_s, qbN_n, qbIX_s, qbIX_n, qbVX_s, qbVX_n, cond_true, cond_false, cond_dec, jadd, jsub, jmul, jneg, li_0, li_1, li_2, li_3, li_4, li_5, li_6, li_7, li_8, li_9, li_10, li_14, li_15, li_16, li_19, li_20, li_24, li_30, li_31, li_32, li_39, li_40, li_48, li_57, li_59, li_60, li_63, li_65, li_80, li_81, li_90, li_97, li_99, li_100, li_122, li_126, li_127, li_150, li_160, li_200, li_225, li_255, li_400, li_799, li_800, li_999, li_2400, li_3239, li_3240, li_1048575, li_1431655765, li_858993459, li_252645135, eqb_j, ltb_j, leb_j, inb_j, ix_j, ix_n, nz_b, nz_0, nz_1, eqb_b, bnot, vI_ne, vI_eq, gIL, gLI, gIR, gRI, gLR, gRL, Int.reduceLT, Int.reduceLE, Int.reduceEq, Int.reduceAdd, Int.reduceSub, Int.reduceMul, Int.reduceNeg, Int.reduceToNat, Nat.reduceEqDiff, reduceIte, if_neg, if_pos, gI_ne, gIv 98, hn, ln, show bI true = 1 from rfl]
              exact ih2
          · rw [skip (fun h => by
              rcases s4 with s4 | s4
              · omega
              · have h7 := h.1 (mK (mtB (vI m) a i) 0 n) (by omega)
                have h8 : mtB (vI m) a i (mK (mtB (vI m) a i) 0 n) = true := by
                  generalize mK (mtB (vI m) a i) 0 n = q at h7
                  unfold mtB
                  rw [h7.1, h7.2, Bool.true_and, decide_eq_true rfl]
                rw [h8] at s4
                cases s4)]
            simp (disch := omega) only [fX13_hasWord_53, fX13_hasWord_66, qbI_s, qbL_s, qbV_s, qbR_s, qbR_n, qbN_s, qbN_n, qbIX_s, qbIX_n, qbVX_s, qbVX_n, cond_true, cond_false, cond_dec, jadd, jsub, jmul, jneg, li_0, li_1, li_2, li_3, li_4, li_5, li_6, li_7, li_8, li_9, li_10, li_14, li_15, li_16, li_19, li_20, li_24, li_30, li_31, li_32, li_39, li_40, li_48, li_57, li_59, li_60, li_63, li_65, li_80, li_81, li_90, li_97, li_99, li_100, li_122, li_126, li_127, li_150, li_160, li_200, li_225, li_255, li_400, li_799, li_800, li_999, li_2400, li_3239, li_3240, li_1048575, li_1431655765, li_858993459, li_252645135, eqb_j, ltb_j, leb_j, inb_j, ix_j, ix_n, nz_b, nz_0, nz_1, eqb_b, bnot, vI_ne, vI_eq, gIL, gLI, gIR, gRI, gLR, gRL, Int.reduceLT, Int.reduceLE, Int.reduceEq, Int.reduceAdd, Int.reduceSub, Int.reduceMul, Int.reduceNeg, Int.reduceToNat, Nat.reduceEqDiff, reduceIte, if_neg, if_pos, gI_ne, gIv 98, hn]
            exact ih2
        · rw [c1] at l1
          rw [skip (fun h => by rw [h.2.2] at c1; cases c1)]
          simp (disch := omega) only [fX13_hasWord_2, fX13_hasWord_66, qbI_s, qbL_s, qbV_s, qbR_s, qbR_n, qbN_s, qbN_n, qbIX_s, qbIX_n, qbVX_s, qbVX_n, cond_true, cond_false, cond_dec, jadd, jsub, jmul, jneg, li_0, li_1, li_2, li_3, li_4, li_5, li_6, li_7, li_8, li_9, li_10, li_14, li_15, li_16, li_19, li_20, li_24, li_30, li_31, li_32, li_39, li_40, li_48, li_57, li_59, li_60, li_63, li_65, li_80, li_81, li_90, li_97, li_99, li_100, li_122, li_126, li_127, li_150, li_160, li_200, li_225, li_255, li_400, li_799, li_800, li_999, li_2400, li_3239, li_3240, li_1048575, li_1431655765, li_858993459, li_252645135, eqb_j, ltb_j, leb_j, inb_j, ix_j, ix_n, nz_b, nz_0, nz_1, eqb_b, bnot, vI_ne, vI_eq, gIL, gLI, gIR, gRI, gLR, gRL, Int.reduceLT, Int.reduceLE, Int.reduceEq, Int.reduceAdd, Int.reduceSub, Int.reduceMul, Int.reduceNeg, Int.reduceToNat, Nat.reduceEqDiff, reduceIte, if_neg, if_pos, gI_ne, gIv 151, l0, l1, show bI true = 1 from rfl]
          exact ih2
  have k0 := key (vI m 151 a).toNat 0 FU (by omega) (by rw [FU_d]; omega)
  have e0 : pd (∃ s : Nat, 0 ≤ s ∧ wAt (vI m) a n s) = hwB (vI m) a n := by
    unfold hwB
    rw [Bool.eq_iff_iff, pd_iff, pd_iff]
    exact ⟨fun ⟨s, _, h⟩ => ⟨s, h⟩, fun ⟨s, h⟩ => ⟨s, Nat.zero_le _, h⟩⟩
  rw [e0] at k0
  rw [fX13_hasWord_d]
  simp only [fX13_hasWord_0]
  exact k0
/-! the class's own -/
def RNoteB (m : qM) : Prop := (∀ a, a < 40 → vI m 95 a = vI m 151 a ∧ 0 ≤ vI m 151 a ∧ vI m 151 a ≤ 60) ∧ (∀ a : Nat, vI m 98 32 ≤ a → a < 40 → vI m 151 a = 0) ∧ (∀ k, k < 2400 → vI m 94 k = vI m 153 k ∧ 0 ≤ vI m 153 k ∧ vI m 153 k ≤ 126) ∧ (∀ a t, a < 40 → t < 10 → bt (gI m 96 a) t = decide (vI m 154 (10 * a + t) = 1)) ∧ (∀ k, k < 400 → vI m 154 k = 0 ∨ vI m 154 k = 1)
theorem RNoteB.of {m : qM} (h : RNote m) : RNoteB m := ⟨h.1, h.2.1, h.2.2.1, h.2.2.2.1, h.2.2.2.2.1⟩
theorem RNoteB.mono {m m' : qM} (h : RNoteB m) (q : ∀ c k, 94 ≤ c ∧ c ≤ 96 ∨ c = 98 ∧ k = 32 ∨ c = 151 ∨ c = 153 ∨ c = 154 → gI m' c k = gI m c k) : RNoteB m' := by
  have v : ∀ c k, 94 ≤ c ∧ c ≤ 96 ∨ c = 98 ∧ k = 32 ∨ c = 151 ∨ c = 153 ∨ c = 154 → vI m' c k = vI m c k := fun c k hc => vI_of (q c k hc)
  simp only [RNoteB] at h ⊢
  simp (disch := omega) only [v, q]
  exact h
theorem mayReadB (m : qM) (hAs : RAsk m) (hNo : RNoteB m) (t a : Nat) (ht : t < 10) (ha : (a : Int) < vI m 98 32) : fX2_mayRead (Zi t) (Zi a) m = some (Zi (bI (mrB m t a)), m) := by
  obtain ⟨e1, e2, e3, e4⟩ := hAs
  have k2 := (e4 a ha).2.1
  have k3 := hNo.2.2.2.1 a t (by omega) ht
  have k4 := has_s (gI m 96 a) t (by omega) m
  rw [k3] at k4
  rw [fX2_mayRead_d]
  simp (disch := omega) only [fX2_mayRead_0, fX2_mayRead_13, fX2_mayRead_16, fX4_teacherOf_d, fX4_teacherOf_0, qbI_s, qbL_s, qbV_s, qbR_s, qbR_n, qbN_s, qbN_n, qbIX_s, qbIX_n, qbVX_s, qbVX_n, cond_true, cond_false, cond_dec, jadd, jsub, jmul, jneg, li_0, li_1, li_2, li_3, li_4, li_5, li_6, li_7, li_8, li_9, li_10, li_14, li_15, li_16, li_19, li_20, li_24, li_30, li_31, li_32, li_39, li_40, li_48, li_57, li_59, li_60, li_63, li_65, li_80, li_81, li_90, li_97, li_99, li_100, li_122, li_126, li_127, li_150, li_160, li_200, li_225, li_255, li_400, li_799, li_800, li_999, li_2400, li_3239, li_3240, li_1048575, li_1431655765, li_858993459, li_252645135, eqb_j, ltb_j, leb_j, inb_j, ix_j, ix_n, nz_b, nz_0, nz_1, eqb_b, bnot, vI_ne, vI_eq, gIL, gLI, gIR, gRI, gLR, gRL, Int.reduceLT, Int.reduceLE, Int.reduceEq, Int.reduceAdd, Int.reduceSub, Int.reduceMul, Int.reduceNeg, Int.reduceToNat, Nat.reduceEqDiff, reduceIte, if_neg, if_pos, gI_ne, gIv 60, k2.1, k4, mrB]
  by_cases g : vI m 124 a = t
  · rw [if_pos g, decide_eq_true g]
    rfl
  · rw [if_neg g, decide_eq_false g, Bool.false_or]
    rw [bI_dec]
    split <;> rfl
theorem byteOf_s (m : qM) (hNo : RNoteB m) (a : Nat) (ha : a < 40) (i : Int) (hi : -2147483648 ≤ i ∧ i < 2147483648) : fX2_byteOf (Zi a) (Zi i) m = some (Zi (if 0 ≤ i ∧ i < vI m 151 a then vI m 153 (60 * a + i.toNat) else -1), m) := by
  have h1 := hNo.1 a ha
  rw [fX2_byteOf_d]
  by_cases g : 0 ≤ i ∧ i < vI m 151 a
  · have h2 := hNo.2.2.1 (60 * a + i.toNat) (by omega)
    have i1 : ((a : Int) * 60 + i).toNat = 60 * a + i.toNat := by omega
    rw [if_pos g]
    simp (disch := omega) only [fX2_byteOf_0, fX2_byteOf_20, qbI_s, qbL_s, qbV_s, qbR_s, qbR_n, qbN_s, qbN_n, qbIX_s, qbIX_n, qbVX_s, qbVX_n, cond_true, cond_false, cond_dec, jadd, jsub, jmul, jneg, li_0, li_1, li_2, li_3, li_4, li_5, li_6, li_7, li_8, li_9, li_10, li_14, li_15, li_16, li_19, li_20, li_24, li_30, li_31, li_32, li_39, li_40, li_48, li_57, li_59, li_60, li_63, li_65, li_80, li_81, li_90, li_97, li_99, li_100, li_122, li_126, li_127, li_150, li_160, li_200, li_225, li_255, li_400, li_799, li_800, li_999, li_2400, li_3239, li_3240, li_1048575, li_1431655765, li_858993459, li_252645135, eqb_j, ltb_j, leb_j, inb_j, ix_j, ix_n, nz_b, nz_0, nz_1, eqb_b, bnot, vI_ne, vI_eq, gIL, gLI, gIR, gRI, gLR, gRL, Int.reduceLT, Int.reduceLE, Int.reduceEq, Int.reduceAdd, Int.reduceSub, Int.reduceMul, Int.reduceNeg, Int.reduceToNat, Nat.reduceEqDiff, reduceIte, if_neg, if_pos, gI_ne, gIv 95, h1.1, within_s, gIv 94, i1, h2.1]
  · rw [if_neg g]
    simp (disch := omega) only [fX2_byteOf_0, fX2_byteOf_20, qbI_s, qbL_s, qbV_s, qbR_s, qbR_n, qbN_s, qbN_n, qbIX_s, qbIX_n, qbVX_s, qbVX_n, cond_true, cond_false, cond_dec, jadd, jsub, jmul, jneg, li_0, li_1, li_2, li_3, li_4, li_5, li_6, li_7, li_8, li_9, li_10, li_14, li_15, li_16, li_19, li_20, li_24, li_30, li_31, li_32, li_39, li_40, li_48, li_57, li_59, li_60, li_63, li_65, li_80, li_81, li_90, li_97, li_99, li_100, li_122, li_126, li_127, li_150, li_160, li_200, li_225, li_255, li_400, li_799, li_800, li_999, li_2400, li_3239, li_3240, li_1048575, li_1431655765, li_858993459, li_252645135, eqb_j, ltb_j, leb_j, inb_j, ix_j, ix_n, nz_b, nz_0, nz_1, eqb_b, bnot, vI_ne, vI_eq, gIL, gLI, gIR, gRI, gLR, gRL, Int.reduceLT, Int.reduceLE, Int.reduceEq, Int.reduceAdd, Int.reduceSub, Int.reduceMul, Int.reduceNeg, Int.reduceToNat, Nat.reduceEqDiff, reduceIte, if_neg, if_pos, gI_ne, gIv 95, h1.1, within_s]
theorem isL_byte {m : qM} (hT : RTape m) (k : Nat) (hk : k < 400) : isL (vI m 2 k) = isL (vI m 110 k) ∧ (isL (vI m 110 k) = true → vI m 2 k = vI m 110 k) := by
  have hb := byte_v hT k hk
  have h5 := hT.2.2.2.2 k hk
  by_cases g : vI m 110 k < 0
  · rw [if_pos g] at hb
    have e1 : isL (vI m 2 k) = false := decide_eq_false (by unfold lwV; split <;> omega)
    have e2 : isL (vI m 110 k) = false := decide_eq_false (by unfold lwV; split <;> omega)
    rw [e1, e2]
    exact ⟨rfl, fun z => by cases z⟩
  · rw [if_neg g] at hb
    rw [hb]
    exact ⟨rfl, fun _ => rfl⟩
noncomputable def wordB (m : qM) (n : Nat) : Bool := decide (1 ≤ n ∧ n ≤ 20) && pd (∀ i, i < n → isL (vI m 110 i) = true)
theorem isWord_s (m : qM) (hT : RTape m) (n : Nat) (hn : vI m 1 1 = n) : fX2_isWord m = some (Zi (bI (wordB m n)), m) := by
  have h400 := hT.2.1
  rw [fX2_isWord_d]
  unfold wordB
  by_cases h : 1 ≤ n ∧ n ≤ 20
  · have key : ∀ (r i g : Nat), i + r = n → r < g → fX2_isWord_10 g (Zi i) m = some (Zi (bI (pd (∀ j, i ≤ j → j < n → isL (vI m 110 j) = true))), m) := by
      intro r
      induction r with
      | zero =>
        intro i g hi hg
        obtain ⟨g, rfl⟩ : ∃ g', g = g' + 1 := ⟨g - 1, by omega⟩
        rw [pd_t (fun j h1 h2 => by omega)]
        simp (disch := omega) only [fX2_isWord_10, fX8_size_d, fX8_size_0, qbI_s, qbL_s, qbV_s, qbR_s, qbR_n, qbN_s, qbN_n, qbIX_s, qbIX_n, qbVX_s, qbVX_n, cond_true, cond_false, cond_dec, jadd, jsub, jmul, jneg, li_0, li_1, li_2, li_3, li_4, li_5, li_6, li_7, li_8, li_9, li_10, li_14, li_15, li_16, li_19, li_20, li_24, li_30, li_31, li_32, li_39, li_40, li_48, li_57, li_59, li_60, li_63, li_65, li_80, li_81, li_90, li_97, li_99, li_100, li_122, li_126, li_127, li_150, li_160, li_200, li_225, li_255, li_400, li_799, li_800, li_999, li_2400, li_3239, li_3240, li_1048575, li_1431655765, li_858993459, li_252645135, eqb_j, ltb_j, leb_j, inb_j, ix_j, ix_n, nz_b, nz_0, nz_1, eqb_b, bnot, vI_ne, vI_eq, gIL, gLI, gIR, gRI, gLR, gRL, Int.reduceLT, Int.reduceLE, Int.reduceEq, Int.reduceAdd, Int.reduceSub, Int.reduceMul, Int.reduceNeg, Int.reduceToNat, Nat.reduceEqDiff, reduceIte, if_neg, if_pos, gI_ne, gIv 1, hn]
        rfl
      | succ r ih =>
        intro i g hi hg
        obtain ⟨g, rfl⟩ : ∃ g', g = g' + 1 := ⟨g - 1, by omega⟩
        have ih2 := ih (i + 1) g (by omega) (by omega)
        have hb := isL_byte hT i (by omega)
        have h5 := byte_v hT i (by omega)
        have h6 := hT.2.2.2.2 i (by omega)
        have ba : fX8_byteAt (Zi i) m = some (Zi (vI m 2 i), m) := by
          rcases byteAt_s m hT i with h9 | h9
          · rw [h9, if_pos (by omega)]
          · omega
        have hr : -2147483648 ≤ vI m 2 i ∧ vI m 2 i < 2147483600 := by
          rw [h5]
          split <;> omega
        cases hv : isL (vI m 110 i)
        · rw [pd_f (fun h => by have := h i (Nat.le_refl _) (by omega); rw [hv] at this; cases this)]
          rw [hv] at hb
          simp (disch := omega) only [fX2_isWord_10, fX8_size_d, fX8_size_0, qbI_s, qbL_s, qbV_s, qbR_s, qbR_n, qbN_s, qbN_n, qbIX_s, qbIX_n, qbVX_s, qbVX_n, cond_true, cond_false, cond_dec, jadd, jsub, jmul, jneg, li_0, li_1, li_2, li_3, li_4, li_5, li_6, li_7, li_8, li_9, li_10, li_14, li_15, li_16, li_19, li_20, li_24, li_30, li_31, li_32, li_39, li_40, li_48, li_57, li_59, li_60, li_63, li_65, li_80, li_81, li_90, li_97, li_99, li_100, li_122, li_126, li_127, li_150, li_160, li_200, li_225, li_255, li_400, li_799, li_800, li_999, li_2400, li_3239, li_3240, li_1048575, li_1431655765, li_858993459, li_252645135, eqb_j, ltb_j, leb_j, inb_j, ix_j, ix_n, nz_b, nz_0, nz_1, eqb_b, bnot, vI_ne, vI_eq, gIL, gLI, gIR, gRI, gLR, gRL, Int.reduceLT, Int.reduceLE, Int.reduceEq, Int.reduceAdd, Int.reduceSub, Int.reduceMul, Int.reduceNeg, Int.reduceToNat, Nat.reduceEqDiff, reduceIte, if_neg, if_pos, gI_ne, gIv 1, hn, ba, letterC, hb.1, show bI false = 0 from rfl]
        · have e : pd (∀ j, i ≤ j → j < n → isL (vI m 110 j) = true) = pd (∀ j, i + 1 ≤ j → j < n → isL (vI m 110 j) = true) := by
            rw [Bool.eq_iff_iff, pd_iff, pd_iff]
            exact ⟨fun h j h1 h2 => h j (by omega) h2, fun h j h1 h2 => by
              by_cases e : j = i
              · rw [e]; exact hv
              · exact h j (by omega) h2⟩
          rw [e]
          rw [hv] at hb
          simp (disch := omega) only [fX2_isWord_10, fX8_size_d, fX8_size_0, qbI_s, qbL_s, qbV_s, qbR_s, qbR_n, qbN_s, qbN_n, qbIX_s, qbIX_n, qbVX_s, qbVX_n, cond_true, cond_false, cond_dec, jadd, jsub, jmul, jneg, li_0, li_1, li_2, li_3, li_4, li_5, li_6, li_7, li_8, li_9, li_10, li_14, li_15, li_16, li_19, li_20, li_24, li_30, li_31, li_32, li_39, li_40, li_48, li_57, li_59, li_60, li_63, li_65, li_80, li_81, li_90, li_97, li_99, li_100, li_122, li_126, li_127, li_150, li_160, li_200, li_225, li_255, li_400, li_799, li_800, li_999, li_2400, li_3239, li_3240, li_1048575, li_1431655765, li_858993459, li_252645135, eqb_j, ltb_j, leb_j, inb_j, ix_j, ix_n, nz_b, nz_0, nz_1, eqb_b, bnot, vI_ne, vI_eq, gIL, gLI, gIR, gRI, gLR, gRL, Int.reduceLT, Int.reduceLE, Int.reduceEq, Int.reduceAdd, Int.reduceSub, Int.reduceMul, Int.reduceNeg, Int.reduceToNat, Nat.reduceEqDiff, reduceIte, if_neg, if_pos, gI_ne, gIv 1, hn, ba, letterC, hb.1, show bI true = 1 from rfl]
          exact ih2
    have k0 := key n 0 FU (by omega) (by rw [FU_d]; omega)
    rw [decide_eq_true h, Bool.true_and]
    have e : pd (∀ j, 0 ≤ j → j < n → isL (vI m 110 j) = true) = pd (∀ i, i < n → isL (vI m 110 i) = true) := by
      rw [Bool.eq_iff_iff, pd_iff, pd_iff]
      exact ⟨fun h j h2 => h j (Nat.zero_le _) h2, fun h j _ h2 => h j h2⟩
    rw [e] at k0
    simp (disch := omega) only [fX2_isWord_0, fX8_size_d, fX8_size_0, qbI_s, qbL_s, qbV_s, qbR_s, qbR_n, qbN_s, qbN_n, qbIX_s, qbIX_n, qbVX_s, qbVX_n, cond_true, cond_false, cond_dec, jadd, jsub, jmul, jneg, li_0, li_1, li_2, li_3, li_4, li_5, li_6, li_7, li_8, li_9, li_10, li_14, li_15, li_16, li_19, li_20, li_24, li_30, li_31, li_32, li_39, li_40, li_48, li_57, li_59, li_60, li_63, li_65, li_80, li_81, li_90, li_97, li_99, li_100, li_122, li_126, li_127, li_150, li_160, li_200, li_225, li_255, li_400, li_799, li_800, li_999, li_2400, li_3239, li_3240, li_1048575, li_1431655765, li_858993459, li_252645135, eqb_j, ltb_j, leb_j, inb_j, ix_j, ix_n, nz_b, nz_0, nz_1, eqb_b, bnot, vI_ne, vI_eq, gIL, gLI, gIR, gRI, gLR, gRL, Int.reduceLT, Int.reduceLE, Int.reduceEq, Int.reduceAdd, Int.reduceSub, Int.reduceMul, Int.reduceNeg, Int.reduceToNat, Nat.reduceEqDiff, reduceIte, if_neg, if_pos, gI_ne, gIv 1, hn, within_s]
    exact k0
  · rw [decide_eq_false h, Bool.false_and]
    simp (disch := omega) only [fX2_isWord_0, fX8_size_d, fX8_size_0, qbI_s, qbL_s, qbV_s, qbR_s, qbR_n, qbN_s, qbN_n, qbIX_s, qbIX_n, qbVX_s, qbVX_n, cond_true, cond_false, cond_dec, jadd, jsub, jmul, jneg, li_0, li_1, li_2, li_3, li_4, li_5, li_6, li_7, li_8, li_9, li_10, li_14, li_15, li_16, li_19, li_20, li_24, li_30, li_31, li_32, li_39, li_40, li_48, li_57, li_59, li_60, li_63, li_65, li_80, li_81, li_90, li_97, li_99, li_100, li_122, li_126, li_127, li_150, li_160, li_200, li_225, li_255, li_400, li_799, li_800, li_999, li_2400, li_3239, li_3240, li_1048575, li_1431655765, li_858993459, li_252645135, eqb_j, ltb_j, leb_j, inb_j, ix_j, ix_n, nz_b, nz_0, nz_1, eqb_b, bnot, vI_ne, vI_eq, gIL, gLI, gIR, gRI, gLR, gRL, Int.reduceLT, Int.reduceLE, Int.reduceEq, Int.reduceAdd, Int.reduceSub, Int.reduceMul, Int.reduceNeg, Int.reduceToNat, Nat.reduceEqDiff, reduceIte, if_neg, if_pos, gI_ne, gIv 1, hn, within_s]
    rfl
noncomputable def boV (d : Nat → Nat → Int) (a : Nat) (i : Int) : Int := if 0 ≤ i ∧ i < d 151 a then d 153 (60 * a + i.toNat) else -1
theorem boV_L (d : Nat → Nat → Int) (a : Nat) (i : Int) : isL (boV d a i) = LA d a i := by
  unfold boV LA
  by_cases g : 0 ≤ i ∧ i < d 151 a
  · rw [if_pos g, decide_eq_true g, Bool.true_and]
  · rw [if_neg g, decide_eq_false g, Bool.false_and]
    decide
theorem isSame_s (m : qM) (hT : RTape m) (hNo : RNoteB m) (a : Nat) (ha : a < 40) (n : Nat) (hn : vI m 1 1 = n) (hn2 : n ≤ 20) (fr : Nat) (hfr : fr ≤ 61) : fX2_isSame (Zi a) (Zi fr) m = some (Zi (bI (pd (∀ k, k < n → lwV (boV (vI m) a ((fr : Int) + k)) = lwV (vI m 2 k)))), m) := by
  have h60 := hNo.1 a ha
  have key : ∀ (r i g : Nat), i + r = n → r < g → fX2_isSame_2 g (Zi a) (Zi fr) (Zi i) m = some (Zi (bI (pd (∀ k, i ≤ k → k < n → lwV (boV (vI m) a ((fr : Int) + k)) = lwV (vI m 2 k)))), m) := by
    intro r
    induction r with
    | zero =>
      intro i g hi hg
      obtain ⟨g, rfl⟩ : ∃ g', g = g' + 1 := ⟨g - 1, by omega⟩
      rw [pd_t (fun j h1 h2 => by omega)]
      simp (disch := omega) only [fX2_isSame_2, fX8_size_d, fX8_size_0, qbI_s, qbL_s, qbV_s, qbR_s, qbR_n, qbN_s, qbN_n, qbIX_s, qbIX_n, qbVX_s, qbVX_n, cond_true, cond_false, cond_dec, jadd, jsub, jmul, jneg, li_0, li_1, li_2, li_3, li_4, li_5, li_6, li_7, li_8, li_9, li_10, li_14, li_15, li_16, li_19, li_20, li_24, li_30, li_31, li_32, li_39, li_40, li_48, li_57, li_59, li_60, li_63, li_65, li_80, li_81, li_90, li_97, li_99, li_100, li_122, li_126, li_127, li_150, li_160, li_200, li_225, li_255, li_400, li_799, li_800, li_999, li_2400, li_3239, li_3240, li_1048575, li_1431655765, li_858993459, li_252645135, eqb_j, ltb_j, leb_j, inb_j, ix_j, ix_n, nz_b, nz_0, nz_1, eqb_b, bnot, vI_ne, vI_eq, gIL, gLI, gIR, gRI, gLR, gRL, Int.reduceLT, Int.reduceLE, Int.reduceEq, Int.reduceAdd, Int.reduceSub, Int.reduceMul, Int.reduceNeg, Int.reduceToNat, Nat.reduceEqDiff, reduceIte, if_neg, if_pos, gI_ne, gIv 1, hn]
      rfl
    | succ r ih =>
      intro i g hi hg
      obtain ⟨g, rfl⟩ : ∃ g', g = g' + 1 := ⟨g - 1, by omega⟩
      have ih2 := ih (i + 1) g (by omega) (by omega)
      have h5 := byte_v hT i (by omega)
      have h6 := hT.2.2.2.2 i (by omega)
      have ba : fX8_byteAt (Zi i) m = some (Zi (vI m 2 i), m) := by
        rcases byteAt_s m hT i with h9 | h9
        · rw [h9, if_pos (by omega)]
        · omega
      have hr : -2147483648 ≤ vI m 2 i ∧ vI m 2 i < 2147483600 := by
        rw [h5]
        split <;> omega
      have bo : fX2_byteOf (Zi a) (Zi ((fr : Int) + i)) m = some (Zi (boV (vI m) a ((fr : Int) + i)), m) := byteOf_s m hNo a ha ((fr : Int) + i) (by omega)
      have bor : -1 ≤ boV (vI m) a ((fr : Int) + i) ∧ boV (vI m) a ((fr : Int) + i) ≤ 126 := by
        unfold boV
        split
        · rename_i hh
          have := hNo.2.2.1 (60 * a + ((fr : Int) + i).toNat) (by omega)
          omega
        · omega
      have l1 := lwV_r (boV (vI m) a ((fr : Int) + i))
      have l2 := lwV_r (vI m 2 i)
      by_cases hv : lwV (boV (vI m) a ((fr : Int) + i)) = lwV (vI m 2 i)
      · have e : pd (∀ k, i ≤ k → k < n → lwV (boV (vI m) a ((fr : Int) + k)) = lwV (vI m 2 k)) = pd (∀ k, i + 1 ≤ k → k < n → lwV (boV (vI m) a ((fr : Int) + k)) = lwV (vI m 2 k)) := by
          rw [Bool.eq_iff_iff, pd_iff, pd_iff]
          exact ⟨fun h j h1 h2 => h j (by omega) h2, fun h j h1 h2 => by
            by_cases e : j = i
            · rw [e]; exact hv
            · exact h j (by omega) h2⟩
        rw [e]
        simp (disch := omega) only [fX2_isSame_2, fX8_size_d, fX8_size_0, qbI_s, qbL_s, qbV_s, qbR_s, qbR_n, qbN_s, qbN_n, qbIX_s, qbIX_n, qbVX_s, qbVX_n, cond_true, cond_false, cond_dec, jadd, jsub, jmul, jneg, li_0, li_1, li_2, li_3, li_4, li_5, li_6, li_7, li_8, li_9, li_10, li_14, li_15, li_16, li_19, li_20, li_24, li_30, li_31, li_32, li_39, li_40, li_48, li_57, li_59, li_60, li_63, li_65, li_80, li_81, li_90, li_97, li_99, li_100, li_122, li_126, li_127, li_150, li_160, li_200, li_225, li_255, li_400, li_799, li_800, li_999, li_2400, li_3239, li_3240, li_1048575, li_1431655765, li_858993459, li_252645135, eqb_j, ltb_j, leb_j, inb_j, ix_j, ix_n, nz_b, nz_0, nz_1, eqb_b, bnot, vI_ne, vI_eq, gIL, gLI, gIR, gRI, gLR, gRL, Int.reduceLT, Int.reduceLE, Int.reduceEq, Int.reduceAdd, Int.reduceSub, Int.reduceMul, Int.reduceNeg, Int.reduceToNat, Nat.reduceEqDiff, reduceIte, if_neg, if_pos, gI_ne, gIv 1, hn, bo, ba, smallC, hv]
        exact ih2
      · rw [pd_f (fun h => hv (h i (Nat.le_refl _) (by omega)))]
        simp (disch := omega) only [fX2_isSame_2, fX8_size_d, fX8_size_0, qbI_s, qbL_s, qbV_s, qbR_s, qbR_n, qbN_s, qbN_n, qbIX_s, qbIX_n, qbVX_s, qbVX_n, cond_true, cond_false, cond_dec, jadd, jsub, jmul, jneg, li_0, li_1, li_2, li_3, li_4, li_5, li_6, li_7, li_8, li_9, li_10, li_14, li_15, li_16, li_19, li_20, li_24, li_30, li_31, li_32, li_39, li_40, li_48, li_57, li_59, li_60, li_63, li_65, li_80, li_81, li_90, li_97, li_99, li_100, li_122, li_126, li_127, li_150, li_160, li_200, li_225, li_255, li_400, li_799, li_800, li_999, li_2400, li_3239, li_3240, li_1048575, li_1431655765, li_858993459, li_252645135, eqb_j, ltb_j, leb_j, inb_j, ix_j, ix_n, nz_b, nz_0, nz_1, eqb_b, bnot, vI_ne, vI_eq, gIL, gLI, gIR, gRI, gLR, gRL, Int.reduceLT, Int.reduceLE, Int.reduceEq, Int.reduceAdd, Int.reduceSub, Int.reduceMul, Int.reduceNeg, Int.reduceToNat, Nat.reduceEqDiff, reduceIte, if_neg, if_pos, gI_ne, gIv 1, hn, bo, ba, smallC]
        rfl
  have k0 := key n 0 FU (by omega) (by rw [FU_d]; omega)
  have e : pd (∀ k, 0 ≤ k → k < n → lwV (boV (vI m) a ((fr : Int) + k)) = lwV (vI m 2 k)) = pd (∀ k, k < n → lwV (boV (vI m) a ((fr : Int) + k)) = lwV (vI m 2 k)) := by
    rw [Bool.eq_iff_iff, pd_iff, pd_iff]
    exact ⟨fun h j h2 => h j (Nat.zero_le _) h2, fun h j _ h2 => h j h2⟩
  rw [e] at k0
  rw [fX2_isSame_d]
  simp only [fX2_isSame_0]
  exact k0
theorem says_s (m : qM) (hT : RTape m) (hNo : RNoteB m) (a : Nat) (ha : a < 40) (n : Nat) (hn : vI m 1 1 = n) (hn2 : 1 ≤ n ∧ n ≤ 20) (hw : ∀ i, i < n → isL (vI m 110 i) = true) : fX2_says (Zi a) m = some (Zi (bI (hwB (vI m) a n)), m) := by
  have h60 := hNo.1 a ha
  obtain ⟨len, hlen⟩ : ∃ len : Nat, vI m 151 a = len := ⟨(vI m 151 a).toNat, by omega⟩
  have LAlt : ∀ i : Int, LA (vI m) a i = true → 0 ≤ i ∧ i < len := fun i h => by
    unfold LA at h
    rw [Bool.and_eq_true, decide_eq_true_eq] at h
    omega
  have bo : ∀ i : Nat, i ≤ 61 → fX2_byteOf (Zi a) (Zi i) m = some (Zi (boV (vI m) a i), m) := fun i hi => byteOf_s m hNo a ha i (by omega)
  have bor : ∀ i : Int, -1 ≤ boV (vI m) a i ∧ boV (vI m) a i ≤ 126 := fun i => by
    unfold boV
    split
    · rename_i hh
      have := hNo.2.2.1 (60 * a + i.toNat) (by omega)
      omega
    · omega
  have key : ∀ (r i fr g : Nat), i + r = len + 1 → r < g → fr ≤ i → (∀ k : Nat, fr ≤ k → k < i → LA (vI m) a k = true) → LA (vI m) a ((fr : Int) - 1) = false → fX2_says_4 g (Zi a) (Zi fr) (Zi i) m = some (Zi (bI (pd (∃ s : Nat, fr ≤ s ∧ wAt (vI m) a n s))), m) := by
    intro r
    induction r with
    | zero =>
      intro i fr g hi hg hfi hrun hst
      obtain ⟨g, rfl⟩ : ∃ g', g = g' + 1 := ⟨g - 1, by omega⟩
      have : fr = len + 1 := by
        by_cases e : fr ≤ len
        · have := LAlt len (hrun len e (by omega))
          omega
        · omega
      rw [pd_f (fun ⟨s, h1, h2, h3⟩ => by
        have := LAlt _ (h2 0 (by omega)).1
        omega)]
      simp (disch := omega) only [fX2_says_4, qbI_s, qbL_s, qbV_s, qbR_s, qbR_n, qbN_s, qbN_n, qbIX_s, qbIX_n, qbVX_s, qbVX_n, cond_true, cond_false, cond_dec, jadd, jsub, jmul, jneg, li_0, li_1, li_2, li_3, li_4, li_5, li_6, li_7, li_8, li_9, li_10, li_14, li_15, li_16, li_19, li_20, li_24, li_30, li_31, li_32, li_39, li_40, li_48, li_57, li_59, li_60, li_63, li_65, li_80, li_81, li_90, li_97, li_99, li_100, li_122, li_126, li_127, li_150, li_160, li_200, li_225, li_255, li_400, li_799, li_800, li_999, li_2400, li_3239, li_3240, li_1048575, li_1431655765, li_858993459, li_252645135, eqb_j, ltb_j, leb_j, inb_j, ix_j, ix_n, nz_b, nz_0, nz_1, eqb_b, bnot, vI_ne, vI_eq, gIL, gLI, gIR, gRI, gLR, gRL, Int.reduceLT, Int.reduceLE, Int.reduceEq, Int.reduceAdd, Int.reduceSub, Int.reduceMul, Int.reduceNeg, Int.reduceToNat, Nat.reduceEqDiff, reduceIte, if_neg, if_pos, gI_ne, gIv 95, h60.1, hlen]
      rfl
    | succ r ih =>
      intro i fr g hi hg hfi hrun hst
      obtain ⟨g, rfl⟩ : ∃ g', g = g' + 1 := ⟨g - 1, by omega⟩
      have hbi := bo i (by omega)
      have hbr := bor i
      have hlet := letterC (boV (vI m) a i) (by omega) m
      rw [boV_L] at hlet
      cases c0 : LA (vI m) a i
      · rw [c0] at hlet
        have ih2 := ih (i + 1) (i + 1) g (by omega) (by omega) (Nat.le_refl _) (fun k h1 h2 => by omega) (by rw [show ((i + 1 : Nat) : Int) - 1 = (i : Int) by omega]; exact c0)
        have skip : ¬ wAt (vI m) a n fr → pd (∃ s : Nat, fr ≤ s ∧ wAt (vI m) a n s) = pd (∃ s : Nat, i + 1 ≤ s ∧ wAt (vI m) a n s) := fun hs => by
          rw [Bool.eq_iff_iff, pd_iff, pd_iff]
          constructor
          · rintro ⟨s, h1, h2⟩
            by_cases e1 : s = fr
            · rw [e1] at h2; exact absurd h2 hs
            · by_cases e2 : s ≤ i
              · by_cases e3 : s = i
                · have := (h2.1 0 (by omega)).1
                  rw [e3, show ((i : Int) + (0 : Nat)) = (i : Int) by omega, c0] at this
                  cases this
                · have := hrun (s - 1) (by omega) (by omega)
                  have h3 := h2.2.2
                  rw [show ((s : Int) - 1) = ((s - 1 : Nat) : Int) by omega, this] at h3
                  cases h3
              · exact ⟨s, by omega, h2⟩
          · rintro ⟨s, h1, h2⟩
            exact ⟨s, by omega, h2⟩
        by_cases hsz : i - fr = n
        · have hsame := isSame_s m hT hNo a ha n hn hn2.2 fr (by omega)
          cases c1 : pd (∀ k, k < n → lwV (boV (vI m) a ((fr : Int) + k)) = lwV (vI m 2 k))
          · rw [c1] at hsame
            rw [skip (fun h => by
              rw [pd_t (fun k hk => ?_)] at c1
              · cases c1
              · have h3 := h.1 k hk
                have h4 := LAlt _ h3.1
                unfold boV
                rw [if_pos (by omega), show 60 * a + ((fr : Int) + k).toNat = 60 * a + fr + k by omega, h3.2, (isL_byte hT k (by omega)).2 (hw k hk)])]
            simp (disch := omega) only [fX2_says_4, fX2_says_30, fX2_says_34, fX8_size_d, fX8_size_0, qbI_s, qbL_s, qbV_s, qbR_s, qbR_n, qbN_s, qbN_n, qbIX_s, qbIX_n, qbVX_s, qbVX_n, cond_true, cond_false, cond_dec, jadd, jsub, jmul, jneg, li_0, li_1, li_2, li_3, li_4, li_5, li_6, li_7, li_8, li_9, li_10, li_14, li_15, li_16, li_19, li_20, li_24, li_30, li_31, li_32, li_39, li_40, li_48, li_57, li_59, li_60, li_63, li_65, li_80, li_81, li_90, li_97, li_99, li_100, li_122, li_126, li_127, li_150, li_160, li_200, li_225, li_255, li_400, li_799, li_800, li_999, li_2400, li_3239, li_3240, li_1048575, li_1431655765, li_858993459, li_252645135, eqb_j, ltb_j, leb_j, inb_j, ix_j, ix_n, nz_b, nz_0, nz_1, eqb_b, bnot, vI_ne, vI_eq, gIL, gLI, gIR, gRI, gLR, gRL, Int.reduceLT, Int.reduceLE, Int.reduceEq, Int.reduceAdd, Int.reduceSub, Int.reduceMul, Int.reduceNeg, Int.reduceToNat, Nat.reduceEqDiff, reduceIte, if_neg, if_pos, gI_ne, gIv 95, h60.1, hlen, hbi, hlet, gIv 1, hn, hsame, show bI false = 0 from rfl]
            exact ih2
          · rw [c1] at hsame
            have hpd := pd_iff.mp c1
            rw [pd_t ⟨fr, Nat.le_refl _, fun k hk => by
              have h3 := hrun (fr + k) (by omega) (by omega)
              rw [show ((fr + k : Nat) : Int) = (fr : Int) + k by omega] at h3
              refine ⟨h3, ?_⟩
              have h4 := LAlt _ h3
              have h5 := hpd k hk
              unfold boV at h5
              rw [if_pos (by omega), show 60 * a + ((fr : Int) + k).toNat = 60 * a + fr + k by omega, (isL_byte hT k (by omega)).2 (hw k hk)] at h5
              exact h5, by rw [show (fr : Int) + n = (i : Int) by omega]; exact c0, hst⟩]
            simp (disch := omega) only [fX2_says_4, fX2_says_30, fX2_says_34, fX8_size_d, fX8_size_0, qbI_s, qbL_s, qbV_s, qbR_s, qbR_n, qbN_s, qbN_n, qbIX_s, qbIX_n, qbVX_s, qbVX_n, cond_true, cond_false, cond_dec, jadd, jsub, jmul, jneg, li_0, li_1, li_2, li_3, li_4, li_5, li_6, li_7, li_8, li_9, li_10, li_14, li_15, li_16, li_19, li_20, li_24, li_30, li_31, li_32, li_39, li_40, li_48, li_57, li_59, li_60, li_63, li_65, li_80, li_81, li_90, li_97, li_99, li_100, li_122, li_126, li_127, li_150, li_160, li_200, li_225, li_255, li_400, li_799, li_800, li_999, li_2400, li_3239, li_3240, li_1048575, li_1431655765, li_858993459, li_252645135, eqb_j, ltb_j, leb_j, inb_j, ix_j, ix_n, nz_b, nz_0, nz_1, eqb_b, bnot, vI_ne, vI_eq, gIL, gLI, gIR, gRI, gLR, gRL, Int.reduceLT, Int.reduceLE, Int.reduceEq, Int.reduceAdd, Int.reduceSub, Int.reduceMul, Int.reduceNeg, Int.reduceToNat, Nat.reduceEqDiff, reduceIte, if_neg, if_pos, gI_ne, gIv 95, h60.1, hlen, hbi, hlet, gIv 1, hn, hsame, show bI false = 0 from rfl, show bI true = 1 from rfl]
        · rw [skip (fun h => by
            have h1 := h.2.1
            by_cases e : fr + n < i
            · have := hrun (fr + n) (by omega) e
              rw [show ((fr + n : Nat) : Int) = (fr : Int) + n by omega, h1] at this
              cases this
            · have := (h.1 (i - fr) (by omega)).1
              rw [show (fr : Int) + ((i - fr : Nat) : Int) = (i : Int) by omega, c0] at this
              cases this)]
          simp (disch := omega) only [fX2_says_4, fX2_says_30, fX2_says_34, fX8_size_d, fX8_size_0, qbI_s, qbL_s, qbV_s, qbR_s, qbR_n, qbN_s, qbN_n, qbIX_s, qbIX_n, qbVX_s, qbVX_n, cond_true, cond_false, cond_dec, jadd, jsub, jmul, jneg, li_0, li_1, li_2, li_3, li_4, li_5, li_6, li_7, li_8, li_9, li_10, li_14, li_15, li_16, li_19, li_20, li_24, li_30, li_31, li_32, li_39, li_40, li_48, li_57, li_59, li_60, li_63, li_65, li_80, li_81, li_90, li_97, li_99, li_100, li_122, li_126, li_127, li_150, li_160, li_200, li_225, li_255, li_400, li_799, li_800, li_999, li_2400, li_3239, li_3240, li_1048575, li_1431655765, li_858993459, li_252645135, eqb_j, ltb_j, leb_j, inb_j, ix_j, ix_n, nz_b, nz_0, nz_1, eqb_b, bnot, vI_ne, vI_eq, gIL, gLI, gIR, gRI, gLR, gRL, Int.reduceLT, Int.reduceLE, Int.reduceEq, Int.reduceAdd, Int.reduceSub, Int.reduceMul, Int.reduceNeg, Int.reduceToNat, Nat.reduceEqDiff, reduceIte, if_neg, if_pos, gI_ne, gIv 95, h60.1, hlen, hbi, hlet, gIv 1, hn, show bI false = 0 from rfl]
          exact ih2
      · rw [c0] at hlet
        have ih2 := ih (i + 1) fr g (by omega) (by omega) (by omega) (fun k h1 h2 => by
          by_cases e : k = i
          · rw [e]; exact c0
          · exact hrun k h1 (by omega)) hst
        simp (disch := omega) only [fX2_says_4, fX2_says_34, qbI_s, qbL_s, qbV_s, qbR_s, qbR_n, qbN_s, qbN_n, qbIX_s, qbIX_n, qbVX_s, qbVX_n, cond_true, cond_false, cond_dec, jadd, jsub, jmul, jneg, li_0, li_1, li_2, li_3, li_4, li_5, li_6, li_7, li_8, li_9, li_10, li_14, li_15, li_16, li_19, li_20, li_24, li_30, li_31, li_32, li_39, li_40, li_48, li_57, li_59, li_60, li_63, li_65, li_80, li_81, li_90, li_97, li_99, li_100, li_122, li_126, li_127, li_150, li_160, li_200, li_225, li_255, li_400, li_799, li_800, li_999, li_2400, li_3239, li_3240, li_1048575, li_1431655765, li_858993459, li_252645135, eqb_j, ltb_j, leb_j, inb_j, ix_j, ix_n, nz_b, nz_0, nz_1, eqb_b, bnot, vI_ne, vI_eq, gIL, gLI, gIR, gRI, gLR, gRL, Int.reduceLT, Int.reduceLE, Int.reduceEq, Int.reduceAdd, Int.reduceSub, Int.reduceMul, Int.reduceNeg, Int.reduceToNat, Nat.reduceEqDiff, reduceIte, if_neg, if_pos, gI_ne, gIv 95, h60.1, hlen, hbi, hlet, show bI true = 1 from rfl]
        exact ih2
  have k0 := key (len + 1) 0 0 FU (by omega) (by rw [FU_d]; omega) (Nat.le_refl _) (fun k h1 h2 => by omega) (by unfold LA; rw [decide_eq_false (by omega), Bool.false_and])
  have e0 : pd (∃ s : Nat, 0 ≤ s ∧ wAt (vI m) a n s) = hwB (vI m) a n := by
    unfold hwB
    rw [Bool.eq_iff_iff, pd_iff, pd_iff]
    exact ⟨fun ⟨s, _, h⟩ => ⟨s, h⟩, fun ⟨s, h⟩ => ⟨s, Nat.zero_le _, h⟩⟩
  rw [e0] at k0
  rw [fX2_says_d]
  simp only [fX2_says_0]
  exact k0
def fdA (P : Nat → Bool) (h : Nat → Int) : Nat → Nat → Int
  | 0 => h
  | i + 1 => if P i then upI (fdA P h i) (fb_ct P i) i else fdA P h i
theorem fdA_cong (P : Nat → Bool) (h h2 : Nat → Int) (e : ∀ k, k < 40 → h k = h2 k) : ∀ i k, k < 40 → fdA P h i k = fdA P h2 i k
  | 0, k, hk => e k hk
  | i + 1, k, hk => by
    unfold fdA
    split
    · unfold upI
      split
      · rfl
      · exact fdA_cong P h h2 e i k hk
    · exact fdA_cong P h h2 e i k hk
theorem fdA_congP {P P2 : Nat → Bool} (h : Nat → Int) : ∀ i, (∀ k, k < i → P k = P2 k) → fdA P h i = fdA P2 h i
  | 0, _ => rfl
  | i + 1, e => by
    unfold fdA
    rw [e i (by omega), fdA_congP h i (fun k hk => e k (by omega)), fb_ct_cong (p := P) (q := P2) (fun k hk => e k (by omega))]
theorem fdA_r (P : Nat → Bool) (h : Nat → Int) (hh : ∀ k, -2147483648 ≤ h k ∧ h k < 2147483648) : ∀ i, i ≤ 40 → ∀ k, -2147483648 ≤ fdA P h i k ∧ fdA P h i k < 2147483648
  | 0, _, k => hh k
  | i + 1, hi, k => by
    unfold fdA
    split
    · unfold upI
      split
      · omega
      · exact fdA_r P h hh i (by omega) k
    · exact fdA_r P h hh i (by omega) k
theorem fndP_eq {m w : qM} (q : ∀ c k, c = 124 ∨ c = 151 ∨ c = 153 ∨ c = 154 ∨ c = 110 → gI w c k = gI m c k) (t a n : Nat) : (mrB w t a && hwB (vI w) a n) = (mrB m t a && hwB (vI m) a n) := by
  have v : ∀ c k, c = 124 ∨ c = 151 ∨ c = 153 ∨ c = 154 ∨ c = 110 → vI w c k = vI m c k := fun c k hc => vI_of (q c k hc)
  have eL : ∀ i, LA (vI w) a i = LA (vI m) a i := fun i => by
    unfold LA
    rw [v 151 a (by omega), v 153 _ (by omega)]
  have e1 : mrB w t a = mrB m t a := by
    unfold mrB
    rw [v 124 a (by omega), v 154 _ (by omega)]
  have e2 : hwB (vI w) a n = hwB (vI m) a n := by
    unfold hwB wAt
    simp only [eL]
    rw [Bool.eq_iff_iff, pd_iff, pd_iff]
    constructor
    · rintro ⟨s, h1, h2⟩
      exact ⟨s, fun k hk => by have := h1 k hk; rw [v 153 _ (by omega), v 110 k (by omega)] at this; exact this, h2⟩
    · rintro ⟨s, h1, h2⟩
      exact ⟨s, fun k hk => by have := h1 k hk; rw [v 153 _ (by omega), v 110 k (by omega)]; exact this, h2⟩
  rw [e1, e2]
theorem hw_len {d : Nat → Nat → Int} {a n : Nat} (hn : 1 ≤ n) (h : hwB d a n = true) : 0 < d 151 a := by
  obtain ⟨s, h1, -⟩ := pd_iff.mp h
  have := (h1 0 (by omega)).1
  unfold LA at this
  rw [Bool.and_eq_true, decide_eq_true_eq] at this
  omega
theorem searchC (m : qM) (hT : RTape m) (hAs : RAsk m) (hNo : RNoteB m) (t n : Nat) (ht : t < 10) (hn : vI m 1 1 = n) (hn2 : 1 ≤ n ∧ n ≤ 20) (hw : ∀ i, i < n → isL (vI m 110 i) = true) : ∀ (r i g : Nat) (w : qM), i + r = (vI m 98 32).toNat → r < g → Fr (fun c k => c = 97 ∨ c = 93 ∧ k = 5) m w → vI w 97 = fdA (fun a => mrB m t a && hwB (vI m) a n) (vI m 97) i → vI w 93 5 = fb_ct (fun a => mrB m t a && hwB (vI m) a n) i → wp (fX2_search_10 g (Zi t) (Zi i) w) (fun x w' => x = Zi (fb_ct (fun a => mrB m t a && hwB (vI m) a n) (vI m 98 32).toNat) ∧ vI w' 97 = fdA (fun a => mrB m t a && hwB (vI m) a n) (vI m 97) (vI m 98 32).toNat ∧ vI w' 93 5 = fb_ct (fun a => mrB m t a && hwB (vI m) a n) (vI m 98 32).toNat ∧ Fr (fun c k => c = 97 ∨ c = 93 ∧ k = 5) m w') := by
  have a1 := hAs.2.1
  have a2 := hAs.2.2.1
  intro r
  induction r with
  | zero =>
    intro i g w hi hg hF h1 h2
    obtain ⟨g, rfl⟩ : ∃ g', g = g' + 1 := ⟨g - 1, by omega⟩
    have hi' : i = (vI m 98 32).toNat := by omega
    subst hi'
    have v11 : vI w 58 11 = vI m 98 32 := by rw [hF.v 58 11 (by omega), hAs.1]
    refine wp_e (x := Zi (vI w 93 5)) (m := w) ?_ ⟨by rw [h2], h1, h2, hF⟩
    simp (disch := omega) only [fX2_search_10, fX4_asks_d, fX4_asks_0, qbI_s, qbL_s, qbV_s, qbR_s, qbR_n, qbN_s, qbN_n, qbIX_s, qbIX_n, qbVX_s, qbVX_n, cond_true, cond_false, cond_dec, jadd, jsub, jmul, jneg, li_0, li_1, li_2, li_3, li_4, li_5, li_6, li_7, li_8, li_9, li_10, li_14, li_15, li_16, li_19, li_20, li_24, li_30, li_31, li_32, li_39, li_40, li_48, li_57, li_59, li_60, li_63, li_65, li_80, li_81, li_90, li_97, li_99, li_100, li_122, li_126, li_127, li_150, li_160, li_200, li_225, li_255, li_400, li_799, li_800, li_999, li_2400, li_3239, li_3240, li_1048575, li_1431655765, li_858993459, li_252645135, eqb_j, ltb_j, leb_j, inb_j, ix_j, ix_n, nz_b, nz_0, nz_1, eqb_b, bnot, vI_ne, vI_eq, gIL, gLI, gIR, gRI, gLR, gRL, Int.reduceLT, Int.reduceLE, Int.reduceEq, Int.reduceAdd, Int.reduceSub, Int.reduceMul, Int.reduceNeg, Int.reduceToNat, Nat.reduceEqDiff, reduceIte, if_neg, if_pos, gI_ne, gIv 58, v11, gIv 93]
  | succ r ih =>
    intro i g w hi hg hF h1 h2
    obtain ⟨g, rfl⟩ : ∃ g', g = g' + 1 := ⟨g - 1, by omega⟩
    have hi' : (i : Int) < vI m 98 32 := by omega
    have v11 : vI w 58 11 = vI m 98 32 := by rw [hF.v 58 11 (by omega), hAs.1]
    have v95 : vI w 95 i = vI m 151 i := by rw [hF.v 95 i (by omega), (hNo.1 i (by omega)).1]
    have h151 := (hNo.1 i (by omega)).2
    have qF : ∀ c k, c = 124 ∨ c = 151 ∨ c = 153 ∨ c = 154 ∨ c = 110 → gI w c k = gI m c k := fun c k hc => hF.1 c k (by omega)
    have hTw : RTape w := hT.mono fun c k hc => hF.1 c k (by omega)
    have hAw : RAsk w := hAs.mono fun c k hc => hF.1 c k (by omega)
    have hNw : RNoteB w := hNo.mono fun c k hc => hF.1 c k (by omega)
    have hmr := mayReadB w hAw hNw t i ht (by rw [hF.v 98 32 (by omega)]; exact hi')
    have hsy := says_s w hTw hNw i (by omega) n (by rw [hF.v 1 1 (by omega)]; exact hn) hn2 (fun j hj => by rw [hF.v 110 j (by omega)]; exact hw j hj)
    have hP := fndP_eq qF t i n
    have hct := fb_ct_le (fun a => mrB m t a && hwB (vI m) a n) i
    have nxt : (mrB m t i && hwB (vI m) i n) = false → wp (fX2_search_10 g (Zi t) (Zi ((i : Int) + 1)) w) (fun x w' => x = Zi (fb_ct (fun a => mrB m t a && hwB (vI m) a n) (vI m 98 32).toNat) ∧ vI w' 97 = fdA (fun a => mrB m t a && hwB (vI m) a n) (vI m 97) (vI m 98 32).toNat ∧ vI w' 93 5 = fb_ct (fun a => mrB m t a && hwB (vI m) a n) (vI m 98 32).toNat ∧ Fr (fun c k => c = 97 ∨ c = 93 ∧ k = 5) m w') := fun hf =>
      ih (i + 1) g w (by omega) (by omega) hF (by rw [h1, fdA, hf]; rfl) (by rw [h2, fb_ct_succ, hf]; rfl)
    by_cases hlen : vI m 151 i = 0
    · have hf : (mrB m t i && hwB (vI m) i n) = false := by
        cases e : hwB (vI m) i n
        · rw [Bool.and_false]
        · have := hw_len hn2.1 e
          omega
      have nx := nxt hf
      simp (disch := omega) only [fX2_search_10, fX2_search_42, fX4_asks_d, fX4_asks_0, qbI_s, qbL_s, qbV_s, qbR_s, qbR_n, qbN_s, qbN_n, qbIX_s, qbIX_n, qbVX_s, qbVX_n, cond_true, cond_false, cond_dec, jadd, jsub, jmul, jneg, li_0, li_1, li_2, li_3, li_4, li_5, li_6, li_7, li_8, li_9, li_10, li_14, li_15, li_16, li_19, li_20, li_24, li_30, li_31, li_32, li_39, li_40, li_48, li_57, li_59, li_60, li_63, li_65, li_80, li_81, li_90, li_97, li_99, li_100, li_122, li_126, li_127, li_150, li_160, li_200, li_225, li_255, li_400, li_799, li_800, li_999, li_2400, li_3239, li_3240, li_1048575, li_1431655765, li_858993459, li_252645135, eqb_j, ltb_j, leb_j, inb_j, ix_j, ix_n, nz_b, nz_0, nz_1, eqb_b, bnot, vI_ne, vI_eq, gIL, gLI, gIR, gRI, gLR, gRL, Int.reduceLT, Int.reduceLE, Int.reduceEq, Int.reduceAdd, Int.reduceSub, Int.reduceMul, Int.reduceNeg, Int.reduceToNat, Nat.reduceEqDiff, reduceIte, if_neg, if_pos, gI_ne, gIv 58, v11, gIv 95, v95]
      exact nx
    · cases c1 : mrB w t i
      · rw [c1] at hmr hP
        have nx := nxt (by rw [← hP, Bool.false_and])
        simp (disch := omega) only [fX2_search_10, fX2_search_42, fX4_asks_d, fX4_asks_0, qbI_s, qbL_s, qbV_s, qbR_s, qbR_n, qbN_s, qbN_n, qbIX_s, qbIX_n, qbVX_s, qbVX_n, cond_true, cond_false, cond_dec, jadd, jsub, jmul, jneg, li_0, li_1, li_2, li_3, li_4, li_5, li_6, li_7, li_8, li_9, li_10, li_14, li_15, li_16, li_19, li_20, li_24, li_30, li_31, li_32, li_39, li_40, li_48, li_57, li_59, li_60, li_63, li_65, li_80, li_81, li_90, li_97, li_99, li_100, li_122, li_126, li_127, li_150, li_160, li_200, li_225, li_255, li_400, li_799, li_800, li_999, li_2400, li_3239, li_3240, li_1048575, li_1431655765, li_858993459, li_252645135, eqb_j, ltb_j, leb_j, inb_j, ix_j, ix_n, nz_b, nz_0, nz_1, eqb_b, bnot, vI_ne, vI_eq, gIL, gLI, gIR, gRI, gLR, gRL, Int.reduceLT, Int.reduceLE, Int.reduceEq, Int.reduceAdd, Int.reduceSub, Int.reduceMul, Int.reduceNeg, Int.reduceToNat, Nat.reduceEqDiff, reduceIte, if_neg, if_pos, gI_ne, gIv 58, v11, gIv 95, v95, hmr, show bI false = 0 from rfl]
        exact nx
      · rw [c1] at hmr hP
        cases c2 : hwB (vI w) i n
        · rw [c2] at hsy hP
          have nx := nxt (by rw [← hP, Bool.and_false])
          simp (disch := omega) only [fX2_search_10, fX2_search_42, fX4_asks_d, fX4_asks_0, qbI_s, qbL_s, qbV_s, qbR_s, qbR_n, qbN_s, qbN_n, qbIX_s, qbIX_n, qbVX_s, qbVX_n, cond_true, cond_false, cond_dec, jadd, jsub, jmul, jneg, li_0, li_1, li_2, li_3, li_4, li_5, li_6, li_7, li_8, li_9, li_10, li_14, li_15, li_16, li_19, li_20, li_24, li_30, li_31, li_32, li_39, li_40, li_48, li_57, li_59, li_60, li_63, li_65, li_80, li_81, li_90, li_97, li_99, li_100, li_122, li_126, li_127, li_150, li_160, li_200, li_225, li_255, li_400, li_799, li_800, li_999, li_2400, li_3239, li_3240, li_1048575, li_1431655765, li_858993459, li_252645135, eqb_j, ltb_j, leb_j, inb_j, ix_j, ix_n, nz_b, nz_0, nz_1, eqb_b, bnot, vI_ne, vI_eq, gIL, gLI, gIR, gRI, gLR, gRL, Int.reduceLT, Int.reduceLE, Int.reduceEq, Int.reduceAdd, Int.reduceSub, Int.reduceMul, Int.reduceNeg, Int.reduceToNat, Nat.reduceEqDiff, reduceIte, if_neg, if_pos, gI_ne, gIv 58, v11, gIv 95, v95, hmr, hsy, show bI true = 1 from rfl, show bI false = 0 from rfl]
          exact nx
        · rw [c2] at hsy hP
          have hf : (mrB m t i && hwB (vI m) i n) = true := by rw [← hP]; rfl
          have nx := ih (i + 1) g (sI (sI w 97 (fb_ct (fun a => mrB m t a && hwB (vI m) a n) i) (Zi i)) 93 5 (Zi (fb_ct (fun a => mrB m t a && hwB (vI m) a n) i + 1))) (by omega) (by omega) (Fr.wI (Fr.wI hF 97 _ _ (Or.inl rfl)) 93 5 _ (Or.inr ⟨rfl, rfl⟩)) (by
            funext k
            simp (disch := omega) only [qbI_s, qbL_s, qbV_s, qbR_s, qbR_n, qbN_s, qbN_n, qbIX_s, qbIX_n, qbVX_s, qbVX_n, cond_true, cond_false, cond_dec, jadd, jsub, jmul, jneg, li_0, li_1, li_2, li_3, li_4, li_5, li_6, li_7, li_8, li_9, li_10, li_14, li_15, li_16, li_19, li_20, li_24, li_30, li_31, li_32, li_39, li_40, li_48, li_57, li_59, li_60, li_63, li_65, li_80, li_81, li_90, li_97, li_99, li_100, li_122, li_126, li_127, li_150, li_160, li_200, li_225, li_255, li_400, li_799, li_800, li_999, li_2400, li_3239, li_3240, li_1048575, li_1431655765, li_858993459, li_252645135, eqb_j, ltb_j, leb_j, inb_j, ix_j, ix_n, nz_b, nz_0, nz_1, eqb_b, bnot, vI_ne, vI_eq, gIL, gLI, gIR, gRI, gLR, gRL, Int.reduceLT, Int.reduceLE, Int.reduceEq, Int.reduceAdd, Int.reduceSub, Int.reduceMul, Int.reduceNeg, Int.reduceToNat, Nat.reduceEqDiff, reduceIte, if_neg, if_pos, gI_ne]
            rw [h1, fdA, if_pos hf]
            rfl) (by
            rw [vI_eq (by omega), if_pos rfl, fb_ct_succ, if_pos hf]
            omega)
          simp (disch := omega) only [fX2_search_10, fX2_search_42, fX4_asks_d, fX4_asks_0, qbI_s, qbL_s, qbV_s, qbR_s, qbR_n, qbN_s, qbN_n, qbIX_s, qbIX_n, qbVX_s, qbVX_n, cond_true, cond_false, cond_dec, jadd, jsub, jmul, jneg, li_0, li_1, li_2, li_3, li_4, li_5, li_6, li_7, li_8, li_9, li_10, li_14, li_15, li_16, li_19, li_20, li_24, li_30, li_31, li_32, li_39, li_40, li_48, li_57, li_59, li_60, li_63, li_65, li_80, li_81, li_90, li_97, li_99, li_100, li_122, li_126, li_127, li_150, li_160, li_200, li_225, li_255, li_400, li_799, li_800, li_999, li_2400, li_3239, li_3240, li_1048575, li_1431655765, li_858993459, li_252645135, eqb_j, ltb_j, leb_j, inb_j, ix_j, ix_n, nz_b, nz_0, nz_1, eqb_b, bnot, vI_ne, vI_eq, gIL, gLI, gIR, gRI, gLR, gRL, Int.reduceLT, Int.reduceLE, Int.reduceEq, Int.reduceAdd, Int.reduceSub, Int.reduceMul, Int.reduceNeg, Int.reduceToNat, Nat.reduceEqDiff, reduceIte, if_neg, if_pos, gI_ne, gIv 58, v11, gIv 95, v95, hmr, hsy, show bI true = 1 from rfl, gIv 93, h2]
          exact nx
theorem findM1 (m : qM) (h5 : ∀ k, k < 400 → -128 ≤ vI m 110 k ∧ vI m 110 k < 128) (n : Nat) (hs : vI m 98 13 = n) (hn : n ≤ 20) (x1 : Int32) (k38 : Int32 → Int32 → qM → Option (Int32 × qM)) : ∀ (r i g : Nat), i + r = n → r < g → fX13_find_18 k38 g x1 (Zi i) m = if pd (∀ j, i ≤ j → j < n → isL (vI m 110 j) = true) then k38 x1 (Zi 0) (sI m 98 75 (Zi 0)) else some (Zi (-1), m) := by
  intro r
  induction r with
  | zero =>
    intro i g hi hg
    obtain ⟨g, rfl⟩ : ∃ g', g = g' + 1 := ⟨g - 1, by omega⟩
    rw [pd_t (fun j h1 h2 => by omega), if_pos rfl]
    simp (disch := omega) only [fX13_find_18, qbI_s, qbL_s, qbV_s, qbR_s, qbR_n, qbN_s, qbN_n, qbIX_s, qbIX_n, qbVX_s, qbVX_n, cond_true, cond_false, cond_dec, jadd, jsub, jmul, jneg, li_0, li_1, li_2, li_3, li_4, li_5, li_6, li_7, li_8, li_9, li_10, li_14, li_15, li_16, li_19, li_20, li_24, li_30, li_31, li_32, li_39, li_40, li_48, li_57, li_59, li_60, li_63, li_65, li_80, li_81, li_90, li_97, li_99, li_100, li_122, li_126, li_127, li_150, li_160, li_200, li_225, li_255, li_400, li_799, li_800, li_999, li_2400, li_3239, li_3240, li_1048575, li_1431655765, li_858993459, li_252645135, eqb_j, ltb_j, leb_j, inb_j, ix_j, ix_n, nz_b, nz_0, nz_1, eqb_b, bnot, vI_ne, vI_eq, gIL, gLI, gIR, gRI, gLR, gRL, Int.reduceLT, Int.reduceLE, Int.reduceEq, Int.reduceAdd, Int.reduceSub, Int.reduceMul, Int.reduceNeg, Int.reduceToNat, Nat.reduceEqDiff, reduceIte, if_neg, if_pos, gI_ne, gIv 98, hs]
  | succ r ih =>
    intro i g hi hg
    obtain ⟨g, rfl⟩ : ∃ g', g = g' + 1 := ⟨g - 1, by omega⟩
    have ih2 := ih (i + 1) g (by omega) (by omega)
    have k1 := h5 i (by omega)
    have k2 := lwV_r (vI m 110 i)
    cases hv : isL (vI m 110 i)
    · rw [pd_f (fun h => by have := h i (Nat.le_refl _) (by omega); rw [hv] at this; cases this), if_neg (by decide)]
      have hv2 : ¬ (97 ≤ lwV (vI m 110 i) ∧ lwV (vI m 110 i) ≤ 122) := of_decide_eq_false hv
      simp (disch := omega) only [fX13_find_18, qbI_s, qbL_s, qbV_s, qbR_s, qbR_n, qbN_s, qbN_n, qbIX_s, qbIX_n, qbVX_s, qbVX_n, cond_true, cond_false, cond_dec, jadd, jsub, jmul, jneg, li_0, li_1, li_2, li_3, li_4, li_5, li_6, li_7, li_8, li_9, li_10, li_14, li_15, li_16, li_19, li_20, li_24, li_30, li_31, li_32, li_39, li_40, li_48, li_57, li_59, li_60, li_63, li_65, li_80, li_81, li_90, li_97, li_99, li_100, li_122, li_126, li_127, li_150, li_160, li_200, li_225, li_255, li_400, li_799, li_800, li_999, li_2400, li_3239, li_3240, li_1048575, li_1431655765, li_858993459, li_252645135, eqb_j, ltb_j, leb_j, inb_j, ix_j, ix_n, nz_b, nz_0, nz_1, eqb_b, bnot, vI_ne, vI_eq, gIL, gLI, gIR, gRI, gLR, gRL, Int.reduceLT, Int.reduceLE, Int.reduceEq, Int.reduceAdd, Int.reduceSub, Int.reduceMul, Int.reduceNeg, Int.reduceToNat, Nat.reduceEqDiff, reduceIte, if_neg, if_pos, gI_ne, gIv 98, hs, gIv 110, smallM, isSmallM]
    · have e : pd (∀ j, i ≤ j → j < n → isL (vI m 110 j) = true) = pd (∀ j, i + 1 ≤ j → j < n → isL (vI m 110 j) = true) := by
        rw [Bool.eq_iff_iff, pd_iff, pd_iff]
        exact ⟨fun h j h1 h2 => h j (by omega) h2, fun h j h1 h2 => by
          by_cases e : j = i
          · rw [e]; exact hv
          · exact h j (by omega) h2⟩
      have hv2 : 97 ≤ lwV (vI m 110 i) ∧ lwV (vI m 110 i) ≤ 122 := of_decide_eq_true hv
      rw [e]
      simp (disch := omega) only [fX13_find_18, qbI_s, qbL_s, qbV_s, qbR_s, qbR_n, qbN_s, qbN_n, qbIX_s, qbIX_n, qbVX_s, qbVX_n, cond_true, cond_false, cond_dec, jadd, jsub, jmul, jneg, li_0, li_1, li_2, li_3, li_4, li_5, li_6, li_7, li_8, li_9, li_10, li_14, li_15, li_16, li_19, li_20, li_24, li_30, li_31, li_32, li_39, li_40, li_48, li_57, li_59, li_60, li_63, li_65, li_80, li_81, li_90, li_97, li_99, li_100, li_122, li_126, li_127, li_150, li_160, li_200, li_225, li_255, li_400, li_799, li_800, li_999, li_2400, li_3239, li_3240, li_1048575, li_1431655765, li_858993459, li_252645135, eqb_j, ltb_j, leb_j, inb_j, ix_j, ix_n, nz_b, nz_0, nz_1, eqb_b, bnot, vI_ne, vI_eq, gIL, gLI, gIR, gRI, gLR, gRL, Int.reduceLT, Int.reduceLE, Int.reduceEq, Int.reduceAdd, Int.reduceSub, Int.reduceMul, Int.reduceNeg, Int.reduceToNat, Nat.reduceEqDiff, reduceIte, if_neg, if_pos, gI_ne, gIv 98, hs, gIv 110, smallM, isSmallM]
      exact ih2
theorem findM2 (m : qM) (hN : NOk m) (hb : ∀ k, k < 400 → vI m 154 k = 0 ∨ vI m 154 k = 1) (h32 : 0 ≤ vI m 98 32 ∧ vI m 98 32 ≤ 40) (t n : Nat) (ht : t < 10) (hs : vI m 98 13 = n) (hn2 : 1 ≤ n ∧ n ≤ 20) : ∀ (r i g : Nat) (w : qM), i + r = (vI m 98 32).toNat → r < g → Fr (fun c k => c = 152 ∨ c = 98 ∧ k = 75) m w → vI w 152 = fdA (fun a => mrB m t a && hwB (vI m) a n) (vI m 152) i → vI w 98 75 = fb_ct (fun a => mrB m t a && hwB (vI m) a n) i → wp (fX13_find_38 g (Zi t) (Zi i) w) (fun x w' => x = Zi (fb_ct (fun a => mrB m t a && hwB (vI m) a n) (vI m 98 32).toNat) ∧ vI w' 152 = fdA (fun a => mrB m t a && hwB (vI m) a n) (vI m 152) (vI m 98 32).toNat ∧ vI w' 98 75 = fb_ct (fun a => mrB m t a && hwB (vI m) a n) (vI m 98 32).toNat ∧ Fr (fun c k => c = 152 ∨ c = 98 ∧ k = 75) m w') := by
  intro r
  induction r with
  | zero =>
    intro i g w hi hg hF h1 h2
    obtain ⟨g, rfl⟩ : ∃ g', g = g' + 1 := ⟨g - 1, by omega⟩
    have hi' : i = (vI m 98 32).toNat := by omega
    subst hi'
    have v11 : vI w 98 32 = vI m 98 32 := hF.v 98 32 (by omega)
    refine wp_e (x := Zi (vI w 98 75)) (m := w) ?_ ⟨by rw [h2], h1, h2, hF⟩
    simp (disch := omega) only [fX13_find_38, qbI_s, qbL_s, qbV_s, qbR_s, qbR_n, qbN_s, qbN_n, qbIX_s, qbIX_n, qbVX_s, qbVX_n, cond_true, cond_false, cond_dec, jadd, jsub, jmul, jneg, li_0, li_1, li_2, li_3, li_4, li_5, li_6, li_7, li_8, li_9, li_10, li_14, li_15, li_16, li_19, li_20, li_24, li_30, li_31, li_32, li_39, li_40, li_48, li_57, li_59, li_60, li_63, li_65, li_80, li_81, li_90, li_97, li_99, li_100, li_122, li_126, li_127, li_150, li_160, li_200, li_225, li_255, li_400, li_799, li_800, li_999, li_2400, li_3239, li_3240, li_1048575, li_1431655765, li_858993459, li_252645135, eqb_j, ltb_j, leb_j, inb_j, ix_j, ix_n, nz_b, nz_0, nz_1, eqb_b, bnot, vI_ne, vI_eq, gIL, gLI, gIR, gRI, gLR, gRL, Int.reduceLT, Int.reduceLE, Int.reduceEq, Int.reduceAdd, Int.reduceSub, Int.reduceMul, Int.reduceNeg, Int.reduceToNat, Nat.reduceEqDiff, reduceIte, if_neg, if_pos, gI_ne, gIv 98, v11]
  | succ r ih =>
    intro i g w hi hg hF h1 h2
    obtain ⟨g, rfl⟩ : ∃ g', g = g' + 1 := ⟨g - 1, by omega⟩
    have hi' : (i : Int) < vI m 98 32 := by omega
    have v11 : vI w 98 32 = vI m 98 32 := hF.v 98 32 (by omega)
    have qF : ∀ c k, c = 124 ∨ c = 151 ∨ c = 153 ∨ c = 154 ∨ c = 110 → gI w c k = gI m c k := fun c k hc => hF.1 c k (by omega)
    have hNw : NOk w := ⟨fun a ha => by rw [hF.v 151 a (by omega)]; exact hN.1 a ha, fun k hk => by rw [hF.v 153 k (by omega)]; exact hN.2.1 k hk, fun k hk => by rw [hF.v 110 k (by omega)]; exact hN.2.2 k hk⟩
    have hmr := mayReadM w (fun k hk => by rw [hF.v 154 k (by omega)]; exact hb k hk) t i ht (by omega)
    have hsy := hasWord_s w hNw i (by omega) n (by rw [hF.v 98 13 (by omega)]; exact hs) hn2
    have hP := fndP_eq qF t i n
    have hct := fb_ct_le (fun a => mrB m t a && hwB (vI m) a n) i
    have nxt : (mrB m t i && hwB (vI m) i n) = false → wp (fX13_find_38 g (Zi t) (Zi ((i : Int) + 1)) w) (fun x w' => x = Zi (fb_ct (fun a => mrB m t a && hwB (vI m) a n) (vI m 98 32).toNat) ∧ vI w' 152 = fdA (fun a => mrB m t a && hwB (vI m) a n) (vI m 152) (vI m 98 32).toNat ∧ vI w' 98 75 = fb_ct (fun a => mrB m t a && hwB (vI m) a n) (vI m 98 32).toNat ∧ Fr (fun c k => c = 152 ∨ c = 98 ∧ k = 75) m w') := fun hf =>
      ih (i + 1) g w (by omega) (by omega) hF (by rw [h1, fdA, hf]; rfl) (by rw [h2, fb_ct_succ, hf]; rfl)
    cases c1 : mrB w t i
    · rw [c1] at hmr hP
      have nx := nxt (by rw [← hP, Bool.false_and])
      simp (disch := omega) only [fX13_find_38, fX13_find_64, qbI_s, qbL_s, qbV_s, qbR_s, qbR_n, qbN_s, qbN_n, qbIX_s, qbIX_n, qbVX_s, qbVX_n, cond_true, cond_false, cond_dec, jadd, jsub, jmul, jneg, li_0, li_1, li_2, li_3, li_4, li_5, li_6, li_7, li_8, li_9, li_10, li_14, li_15, li_16, li_19, li_20, li_24, li_30, li_31, li_32, li_39, li_40, li_48, li_57, li_59, li_60, li_63, li_65, li_80, li_81, li_90, li_97, li_99, li_100, li_122, li_126, li_127, li_150, li_160, li_200, li_225, li_255, li_400, li_799, li_800, li_999, li_2400, li_3239, li_3240, li_1048575, li_1431655765, li_858993459, li_252645135, eqb_j, ltb_j, leb_j, inb_j, ix_j, ix_n, nz_b, nz_0, nz_1, eqb_b, bnot, vI_ne, vI_eq, gIL, gLI, gIR, gRI, gLR, gRL, Int.reduceLT, Int.reduceLE, Int.reduceEq, Int.reduceAdd, Int.reduceSub, Int.reduceMul, Int.reduceNeg, Int.reduceToNat, Nat.reduceEqDiff, reduceIte, if_neg, if_pos, gI_ne, gIv 98, v11, hmr, show bI false = 0 from rfl]
      exact nx
    · rw [c1] at hmr hP
      cases c2 : hwB (vI w) i n
      · rw [c2] at hsy hP
        have nx := nxt (by rw [← hP, Bool.and_false])
        simp (disch := omega) only [fX13_find_38, fX13_find_64, qbI_s, qbL_s, qbV_s, qbR_s, qbR_n, qbN_s, qbN_n, qbIX_s, qbIX_n, qbVX_s, qbVX_n, cond_true, cond_false, cond_dec, jadd, jsub, jmul, jneg, li_0, li_1, li_2, li_3, li_4, li_5, li_6, li_7, li_8, li_9, li_10, li_14, li_15, li_16, li_19, li_20, li_24, li_30, li_31, li_32, li_39, li_40, li_48, li_57, li_59, li_60, li_63, li_65, li_80, li_81, li_90, li_97, li_99, li_100, li_122, li_126, li_127, li_150, li_160, li_200, li_225, li_255, li_400, li_799, li_800, li_999, li_2400, li_3239, li_3240, li_1048575, li_1431655765, li_858993459, li_252645135, eqb_j, ltb_j, leb_j, inb_j, ix_j, ix_n, nz_b, nz_0, nz_1, eqb_b, bnot, vI_ne, vI_eq, gIL, gLI, gIR, gRI, gLR, gRL, Int.reduceLT, Int.reduceLE, Int.reduceEq, Int.reduceAdd, Int.reduceSub, Int.reduceMul, Int.reduceNeg, Int.reduceToNat, Nat.reduceEqDiff, reduceIte, if_neg, if_pos, gI_ne, gIv 98, v11, hmr, hsy, show bI true = 1 from rfl, show bI false = 0 from rfl]
        exact nx
      · rw [c2] at hsy hP
        have hf : (mrB m t i && hwB (vI m) i n) = true := by rw [← hP]; rfl
        have nx := ih (i + 1) g (sI (sI w 152 (fb_ct (fun a => mrB m t a && hwB (vI m) a n) i) (Zi i)) 98 75 (Zi (fb_ct (fun a => mrB m t a && hwB (vI m) a n) i + 1))) (by omega) (by omega) (Fr.wI (Fr.wI hF 152 _ _ (Or.inl rfl)) 98 75 _ (Or.inr ⟨rfl, rfl⟩)) (by
          funext k
          simp (disch := omega) only [qbI_s, qbL_s, qbV_s, qbR_s, qbR_n, qbN_s, qbN_n, qbIX_s, qbIX_n, qbVX_s, qbVX_n, cond_true, cond_false, cond_dec, jadd, jsub, jmul, jneg, li_0, li_1, li_2, li_3, li_4, li_5, li_6, li_7, li_8, li_9, li_10, li_14, li_15, li_16, li_19, li_20, li_24, li_30, li_31, li_32, li_39, li_40, li_48, li_57, li_59, li_60, li_63, li_65, li_80, li_81, li_90, li_97, li_99, li_100, li_122, li_126, li_127, li_150, li_160, li_200, li_225, li_255, li_400, li_799, li_800, li_999, li_2400, li_3239, li_3240, li_1048575, li_1431655765, li_858993459, li_252645135, eqb_j, ltb_j, leb_j, inb_j, ix_j, ix_n, nz_b, nz_0, nz_1, eqb_b, bnot, vI_ne, vI_eq, gIL, gLI, gIR, gRI, gLR, gRL, Int.reduceLT, Int.reduceLE, Int.reduceEq, Int.reduceAdd, Int.reduceSub, Int.reduceMul, Int.reduceNeg, Int.reduceToNat, Nat.reduceEqDiff, reduceIte, if_neg, if_pos, gI_ne]
          rw [h1, fdA, if_pos hf]
          rfl) (by
          rw [vI_eq (by omega), if_pos rfl, fb_ct_succ, if_pos hf]
          omega)
        simp (disch := omega) only [fX13_find_38, fX13_find_64, qbI_s, qbL_s, qbV_s, qbR_s, qbR_n, qbN_s, qbN_n, qbIX_s, qbIX_n, qbVX_s, qbVX_n, cond_true, cond_false, cond_dec, jadd, jsub, jmul, jneg, li_0, li_1, li_2, li_3, li_4, li_5, li_6, li_7, li_8, li_9, li_10, li_14, li_15, li_16, li_19, li_20, li_24, li_30, li_31, li_32, li_39, li_40, li_48, li_57, li_59, li_60, li_63, li_65, li_80, li_81, li_90, li_97, li_99, li_100, li_122, li_126, li_127, li_150, li_160, li_200, li_225, li_255, li_400, li_799, li_800, li_999, li_2400, li_3239, li_3240, li_1048575, li_1431655765, li_858993459, li_252645135, eqb_j, ltb_j, leb_j, inb_j, ix_j, ix_n, nz_b, nz_0, nz_1, eqb_b, bnot, vI_ne, vI_eq, gIL, gLI, gIR, gRI, gLR, gRL, Int.reduceLT, Int.reduceLE, Int.reduceEq, Int.reduceAdd, Int.reduceSub, Int.reduceMul, Int.reduceNeg, Int.reduceToNat, Nat.reduceEqDiff, reduceIte, if_neg, if_pos, gI_ne, gIv 98, v11, hmr, hsy, show bI true = 1 from rfl, h2]
        exact nx
