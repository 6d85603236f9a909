/-! words of texts -/
def tx (j i : Nat) : Int := (qTb8 j i).toInt
theorem tx_all : ∀ j, j < 27 → ∀ i, i < qTlen j → (10 ≤ tx j i ∧ tx j i ≤ 122) ∧ ((qTb8 j i &&& 255).toUInt32 % 65536).toInt32 = qTb8 j i := by decide +kernel
theorem len_all : ∀ j, j < 27 → Int32.ofNat (qTlen j) = Zi (qTlen j) ∧ Int32.ofNat (qTlen j) >>> (Zi 0 &&& Zi 31) = Zi (qTlen j) ∧ qTlen j ≤ 40 := by decide +kernel
theorem qtx_t (j : Nat) (hj : j < 27) : qtx (10100 + j) = true := by
  simp only [qtx, Bool.and_eq_true, Nat.blt_eq, Nat.ble_eq]
  omega
theorem qtv_t (j : Nat) (hj : j < 27) : qtv (10100 + j + 100) = true := by
  simp only [qtv, Bool.and_eq_true, Nat.blt_eq, Nat.ble_eq]
  omega
theorem len_s (j : Nat) (hj : j < 27) (m : qM) : fJ0_length_8abf5 (10100 + j) m = some (Zi (qTlen j), m) := by
  obtain ⟨h1, h2, h3⟩ := len_all j hj
  have e0 : (10100 + j + 100) - 10200 = j := by omega
  rw [fJ0_length_8abf5_d]
  simp (disch := omega) only [fJ0_length_8abf5_0, fJ0_coder_7d493_d, fJ0_coder_7d493_0, fJ0_coder_7d493_6, qtx_t j hj, qtv_t j hj, e0, h2, qbI_s, qbL_s, qbV_s, qbR_s, qbR_n, qbN_s, qbN_n, qbIX_s, qbIX_n, qbVX_s, qbVX_n, cond_true, cond_false, cond_dec, jadd, jsub, jmul, jneg, li_0, li_1, li_2, li_3, li_4, li_5, li_6, li_7, li_8, li_9, li_10, li_14, li_15, li_16, li_19, li_20, li_24, li_30, li_31, li_32, li_39, li_40, li_48, li_57, li_59, li_60, li_63, li_65, li_80, li_81, li_90, li_97, li_99, li_100, li_122, li_126, li_127, li_150, li_160, li_200, li_225, li_255, li_400, li_799, li_800, li_999, li_2400, li_3239, li_3240, li_1048575, li_1431655765, li_858993459, li_252645135, eqb_j, ltb_j, leb_j, inb_j, ix_j, ix_n, nz_b, nz_0, nz_1, eqb_b, bnot, vI_ne, vI_eq, gIL, gLI, gIR, gRI, gLR, gRL, Int.reduceLT, Int.reduceLE, Int.reduceEq, Int.reduceAdd, Int.reduceSub, Int.reduceMul, Int.reduceNeg, Int.reduceToNat, Nat.reduceEqDiff, reduceIte, if_neg, if_pos, gI_ne]
theorem chr_s (j : Nat) (hj : j < 27) (i : Nat) (hi : i < qTlen j) (m : qM) : fJ0_charAt_5068e (10100 + j) (Zi i) m = some (Zi (tx j i), m) := by
  obtain ⟨h1, h2, h3⟩ := len_all j hj
  obtain ⟨h4, h5⟩ := tx_all j hj i hi
  have e0 : (10100 + j + 100) - 10200 = j := by omega
  have e1 : qTb8 j i = Zi (tx j i) := (Int32.ofInt_toInt _).symm
  have e2 : ((qTb8 j i &&& Zi 255).toUInt32 % 65536).toInt32 = Zi (tx j i) := by rw [← li_255, h5, e1]
  have c0 : fJ0_checkIndex_df160 (Zi i) (Zi (qTlen j)) m = some ((), m) := by
    rw [fJ0_checkIndex_df160_d]
    simp (disch := omega) only [fJ0_checkIndex_df160_0, fJ3_checkIndex_8e157_d, fJ3_checkIndex_8e157_0, qbI_s, qbL_s, qbV_s, qbR_s, qbR_n, qbN_s, qbN_n, qbIX_s, qbIX_n, qbVX_s, qbVX_n, cond_true, cond_false, cond_dec, jadd, jsub, jmul, jneg, li_0, li_1, li_2, li_3, li_4, li_5, li_6, li_7, li_8, li_9, li_10, li_14, li_15, li_16, li_19, li_20, li_24, li_30, li_31, li_32, li_39, li_40, li_48, li_57, li_59, li_60, li_63, li_65, li_80, li_81, li_90, li_97, li_99, li_100, li_122, li_126, li_127, li_150, li_160, li_200, li_225, li_255, li_400, li_799, li_800, li_999, li_2400, li_3239, li_3240, li_1048575, li_1431655765, li_858993459, li_252645135, eqb_j, ltb_j, leb_j, inb_j, ix_j, ix_n, nz_b, nz_0, nz_1, eqb_b, bnot, vI_ne, vI_eq, gIL, gLI, gIR, gRI, gLR, gRL, Int.reduceLT, Int.reduceLE, Int.reduceEq, Int.reduceAdd, Int.reduceSub, Int.reduceMul, Int.reduceNeg, Int.reduceToNat, Nat.reduceEqDiff, reduceIte, if_neg, if_pos, gI_ne]
  rw [fJ0_charAt_5068e_d]
  simp (disch := omega) only [fJ0_charAt_5068e_0, fJ0_isLatin1_aae02_d, fJ0_isLatin1_aae02_0, fJ0_isLatin1_aae02_8, fJ1_charAt_3b067_d, fJ1_charAt_3b067_0, qtx_t j hj, qtv_t j hj, e0, h1, c0, e2, qbI_s, qbL_s, qbV_s, qbR_s, qbR_n, qbN_s, qbN_n, qbIX_s, qbIX_n, qbVX_s, qbVX_n, cond_true, cond_false, cond_dec, jadd, jsub, jmul, jneg, li_0, li_1, li_2, li_3, li_4, li_5, li_6, li_7, li_8, li_9, li_10, li_14, li_15, li_16, li_19, li_20, li_24, li_30, li_31, li_32, li_39, li_40, li_48, li_57, li_59, li_60, li_63, li_65, li_80, li_81, li_90, li_97, li_99, li_100, li_122, li_126, li_127, li_150, li_160, li_200, li_225, li_255, li_400, li_799, li_800, li_999, li_2400, li_3239, li_3240, li_1048575, li_1431655765, li_858993459, li_252645135, eqb_j, ltb_j, leb_j, inb_j, ix_j, ix_n, nz_b, nz_0, nz_1, eqb_b, bnot, vI_ne, vI_eq, gIL, gLI, gIR, gRI, gLR, gRL, Int.reduceLT, Int.reduceLE, Int.reduceEq, Int.reduceAdd, Int.reduceSub, Int.reduceMul, Int.reduceNeg, Int.reduceToNat, Nat.reduceEqDiff, reduceIte, if_neg, if_pos, gI_ne]
theorem tok_word {d : Nat → Int} {n f : Nat} (h : tK d n f = 1) : ∀ i, f ≤ i → i < tU d n f → 97 ≤ d i ∧ d i ≤ 122 := by
  intro i h1 h2
  unfold tK at h
  split at h
  · omega
  · rename_i g0
    split at h
    · rename_i c1
      obtain ⟨-, -, h3, -⟩ := mK_spec (smlB d n) (n - f) f
      rw [tU, if_neg g0, if_pos c1] at h2
      have := h3 i h1 h2
      unfold smlB at this
      rw [Bool.and_eq_true, decide_eq_true_eq, decide_eq_true_eq] at this
      exact this.2
    · split at h
      · split at h <;> omega
      · split at h <;> omega
theorem tK_r (d : Nat → Int) (n f : Nat) : 0 ≤ tK d n f ∧ tK d n f ≤ 4 := by
  unfold tK
  split
  · omega
  · split
    · omega
    · split
      · split <;> omega
      · split <;> omega
noncomputable def wdB (d : Nat → Int) (f u j : Nat) : Bool := decide (u - f = qTlen j) && pd (∀ i, i < qTlen j → d (f + i) = tx j i)
theorem is_s (w : qM) (d : Nat → Int) (n : Nat) (hT : TM w d n) (f u : Nat) (K : Int) (h14 : vI w 98 14 = f) (h15 : vI w 98 15 = u) (h16 : vI w 98 16 = K) (hfu : f ≤ u ∧ u ≤ n) (hK : 0 ≤ K ∧ K ≤ 4) (hsm : K = 1 → ∀ i, f ≤ i → i < u → 97 ≤ d i ∧ d i ≤ 122) (j : Nat) (hj : j < 27) : fX13_is (10100 + j) w = some (Zi (bI (decide (K = 1) && wdB d f u j)), w) := by
  have hn := hT.2.1
  obtain ⟨l1, l2, l3⟩ := len_all j hj
  rw [fX13_is_d]
  have e14 : ∀ g, fX13_is_18 fX13_is_41 (g + 1) (10100 + j) (Zi 0) (Zi 0) w = some (Zi 0, w) := fun g => by
    by_cases g0 : qTlen j ≤ 0
    · simp (disch := omega) only [fX13_is_18, fX13_is_41, qtx_t j hj, len_s j hj, qbI_s, qbL_s, qbV_s, qbR_s, qbR_n, qbN_s, qbN_n, qbIX_s, qbIX_n, qbVX_s, qbVX_n, cond_true, cond_false, cond_dec, jadd, jsub, jmul, jneg, li_0, li_1, li_2, li_3, li_4, li_5, li_6, li_7, li_8, li_9, li_10, li_14, li_15, li_16, li_19, li_20, li_24, li_30, li_31, li_32, li_39, li_40, li_48, li_57, li_59, li_60, li_63, li_65, li_80, li_81, li_90, li_97, li_99, li_100, li_122, li_126, li_127, li_150, li_160, li_200, li_225, li_255, li_400, li_799, li_800, li_999, li_2400, li_3239, li_3240, li_1048575, li_1431655765, li_858993459, li_252645135, eqb_j, ltb_j, leb_j, inb_j, ix_j, ix_n, nz_b, nz_0, nz_1, eqb_b, bnot, vI_ne, vI_eq, gIL, gLI, gIR, gRI, gLR, gRL, Int.reduceLT, Int.reduceLE, Int.reduceEq, Int.reduceAdd, Int.reduceSub, Int.reduceMul, Int.reduceNeg, Int.reduceToNat, Nat.reduceEqDiff, reduceIte, if_neg, if_pos, gI_ne]
    · simp (disch := omega) only [fX13_is_18, fX13_is_41, qtx_t j hj, len_s j hj, qbI_s, qbL_s, qbV_s, qbR_s, qbR_n, qbN_s, qbN_n, qbIX_s, qbIX_n, qbVX_s, qbVX_n, cond_true, cond_false, cond_dec, jadd, jsub, jmul, jneg, li_0, li_1, li_2, li_3, li_4, li_5, li_6, li_7, li_8, li_9, li_10, li_14, li_15, li_16, li_19, li_20, li_24, li_30, li_31, li_32, li_39, li_40, li_48, li_57, li_59, li_60, li_63, li_65, li_80, li_81, li_90, li_97, li_99, li_100, li_122, li_126, li_127, li_150, li_160, li_200, li_225, li_255, li_400, li_799, li_800, li_999, li_2400, li_3239, li_3240, li_1048575, li_1431655765, li_858993459, li_252645135, eqb_j, ltb_j, leb_j, inb_j, ix_j, ix_n, nz_b, nz_0, nz_1, eqb_b, bnot, vI_ne, vI_eq, gIL, gLI, gIR, gRI, gLR, gRL, Int.reduceLT, Int.reduceLE, Int.reduceEq, Int.reduceAdd, Int.reduceSub, Int.reduceMul, Int.reduceNeg, Int.reduceToNat, Nat.reduceEqDiff, reduceIte, if_neg, if_pos, gI_ne]
  obtain ⟨F, hF⟩ : ∃ F, FU = F + 1 := ⟨9999, FU_d⟩
  by_cases g1 : K = 1
  · subst g1
    rw [decide_eq_true rfl, Bool.true_and]
    unfold wdB
    by_cases g2 : u - f = qTlen j
    · rw [decide_eq_true g2, Bool.true_and]
      have key : ∀ (r i g : Nat), i + r = qTlen j → r + 1 < g → fX13_is_18 fX13_is_41 g (10100 + j) (Zi 1) (Zi i) w = some (Zi (bI (pd (∀ k, i ≤ k → k < qTlen j → d (f + k) = tx j k))), w) := by
        intro r
        induction r with
        | zero =>
          intro i g hi hg
          obtain ⟨g, rfl⟩ : ∃ g', g = g' + 1 := ⟨g - 1, by omega⟩
          rw [pd_t (fun k h1 h2 => by omega)]
          simp (disch := omega) only [fX13_is_18, fX13_is_41, qtx_t j hj, len_s j hj, qbI_s, qbL_s, qbV_s, qbR_s, qbR_n, qbN_s, qbN_n, qbIX_s, qbIX_n, qbVX_s, qbVX_n, cond_true, cond_false, cond_dec, jadd, jsub, jmul, jneg, li_0, li_1, li_2, li_3, li_4, li_5, li_6, li_7, li_8, li_9, li_10, li_14, li_15, li_16, li_19, li_20, li_24, li_30, li_31, li_32, li_39, li_40, li_48, li_57, li_59, li_60, li_63, li_65, li_80, li_81, li_90, li_97, li_99, li_100, li_122, li_126, li_127, li_150, li_160, li_200, li_225, li_255, li_400, li_799, li_800, li_999, li_2400, li_3239, li_3240, li_1048575, li_1431655765, li_858993459, li_252645135, eqb_j, ltb_j, leb_j, inb_j, ix_j, ix_n, nz_b, nz_0, nz_1, eqb_b, bnot, vI_ne, vI_eq, gIL, gLI, gIR, gRI, gLR, gRL, Int.reduceLT, Int.reduceLE, Int.reduceEq, Int.reduceAdd, Int.reduceSub, Int.reduceMul, Int.reduceNeg, Int.reduceToNat, Nat.reduceEqDiff, reduceIte, if_neg, if_pos, gI_ne]
          rfl
        | succ r ih =>
          intro i g hi hg
          obtain ⟨g, rfl⟩ : ∃ g', g = g' + 2 := ⟨g - 2, by omega⟩
          have ih2 := ih (i + 1) (g + 1) (by omega) (by omega)
          have hb := (hT.2.2 (f + i) (by omega)).2
          have hs := hsm rfl (f + i) (by omega) (by omega)
          have ht := (tx_all j hj i (by omega)).1
          have e1 : vI w 110 (f + i) = d (f + i) := by omega
          have hc := chr_s j hj i (by omega) w
          have i1 : ((f : Int) + (i : Int)).toNat = f + i := by omega
          by_cases c : d (f + i) = tx j i
          · have e : pd (∀ k, i ≤ k → k < qTlen j → d (f + k) = tx j k) = pd (∀ k, i + 1 ≤ k → k < qTlen j → d (f + k) = tx j k) := by
              rw [Bool.eq_iff_iff, pd_iff, pd_iff]
              exact ⟨fun h k h1 h2 => h k (by omega) h2, fun h k h1 h2 => by
                by_cases e : k = i
                · rw [e]; exact c
                · exact h k (by omega) h2⟩
            rw [e]
            rw [fX13_is_18]
            simp (disch := omega) only [fX13_is_38, qtx_t j hj, len_s j hj, qbI_s, qbL_s, qbV_s, qbR_s, qbR_n, qbN_s, qbN_n, qbIX_s, qbIX_n, qbVX_s, qbVX_n, cond_true, cond_false, cond_dec, jadd, jsub, jmul, jneg, li_0, li_1, li_2, li_3, li_4, li_5, li_6, li_7, li_8, li_9, li_10, li_14, li_15, li_16, li_19, li_20, li_24, li_30, li_31, li_32, li_39, li_40, li_48, li_57, li_59, li_60, li_63, li_65, li_80, li_81, li_90, li_97, li_99, li_100, li_122, li_126, li_127, li_150, li_160, li_200, li_225, li_255, li_400, li_799, li_800, li_999, li_2400, li_3239, li_3240, li_1048575, li_1431655765, li_858993459, li_252645135, eqb_j, ltb_j, leb_j, inb_j, ix_j, ix_n, nz_b, nz_0, nz_1, eqb_b, bnot, vI_ne, vI_eq, gIL, gLI, gIR, gRI, gLR, gRL, Int.reduceLT, Int.reduceLE, Int.reduceEq, Int.reduceAdd, Int.reduceSub, Int.reduceMul, Int.reduceNeg, Int.reduceToNat, Nat.reduceEqDiff, reduceIte, if_neg, if_pos, gI_ne, gIv 98, h14, gIv 110, i1, e1, hc, c]
            exact ih2
          · rw [pd_f (fun h => c (h i (Nat.le_refl _) (by omega)))]
            rw [fX13_is_18]
            simp (disch := omega) only [fX13_is_38, qtx_t j hj, len_s j hj, qbI_s, qbL_s, qbV_s, qbR_s, qbR_n, qbN_s, qbN_n, qbIX_s, qbIX_n, qbVX_s, qbVX_n, cond_true, cond_false, cond_dec, jadd, jsub, jmul, jneg, li_0, li_1, li_2, li_3, li_4, li_5, li_6, li_7, li_8, li_9, li_10, li_14, li_15, li_16, li_19, li_20, li_24, li_30, li_31, li_32, li_39, li_40, li_48, li_57, li_59, li_60, li_63, li_65, li_80, li_81, li_90, li_97, li_99, li_100, li_122, li_126, li_127, li_150, li_160, li_200, li_225, li_255, li_400, li_799, li_800, li_999, li_2400, li_3239, li_3240, li_1048575, li_1431655765, li_858993459, li_252645135, eqb_j, ltb_j, leb_j, inb_j, ix_j, ix_n, nz_b, nz_0, nz_1, eqb_b, bnot, vI_ne, vI_eq, gIL, gLI, gIR, gRI, gLR, gRL, Int.reduceLT, Int.reduceLE, Int.reduceEq, Int.reduceAdd, Int.reduceSub, Int.reduceMul, Int.reduceNeg, Int.reduceToNat, Nat.reduceEqDiff, reduceIte, if_neg, if_pos, gI_ne, gIv 98, h14, gIv 110, i1, e1, hc]
            by_cases g5 : qTlen j ≤ i + 1
            · simp (disch := omega) only [fX13_is_18, fX13_is_41, qtx_t j hj, len_s j hj, qbI_s, qbL_s, qbV_s, qbR_s, qbR_n, qbN_s, qbN_n, qbIX_s, qbIX_n, qbVX_s, qbVX_n, cond_true, cond_false, cond_dec, jadd, jsub, jmul, jneg, li_0, li_1, li_2, li_3, li_4, li_5, li_6, li_7, li_8, li_9, li_10, li_14, li_15, li_16, li_19, li_20, li_24, li_30, li_31, li_32, li_39, li_40, li_48, li_57, li_59, li_60, li_63, li_65, li_80, li_81, li_90, li_97, li_99, li_100, li_122, li_126, li_127, li_150, li_160, li_200, li_225, li_255, li_400, li_799, li_800, li_999, li_2400, li_3239, li_3240, li_1048575, li_1431655765, li_858993459, li_252645135, eqb_j, ltb_j, leb_j, inb_j, ix_j, ix_n, nz_b, nz_0, nz_1, eqb_b, bnot, vI_ne, vI_eq, gIL, gLI, gIR, gRI, gLR, gRL, Int.reduceLT, Int.reduceLE, Int.reduceEq, Int.reduceAdd, Int.reduceSub, Int.reduceMul, Int.reduceNeg, Int.reduceToNat, Nat.reduceEqDiff, reduceIte, if_neg, if_pos, gI_ne]
              rfl
            · simp (disch := omega) only [fX13_is_18, fX13_is_41, qtx_t j hj, len_s j hj, qbI_s, qbL_s, qbV_s, qbR_s, qbR_n, qbN_s, qbN_n, qbIX_s, qbIX_n, qbVX_s, qbVX_n, cond_true, cond_false, cond_dec, jadd, jsub, jmul, jneg, li_0, li_1, li_2, li_3, li_4, li_5, li_6, li_7, li_8, li_9, li_10, li_14, li_15, li_16, li_19, li_20, li_24, li_30, li_31, li_32, li_39, li_40, li_48, li_57, li_59, li_60, li_63, li_65, li_80, li_81, li_90, li_97, li_99, li_100, li_122, li_126, li_127, li_150, li_160, li_200, li_225, li_255, li_400, li_799, li_800, li_999, li_2400, li_3239, li_3240, li_1048575, li_1431655765, li_858993459, li_252645135, eqb_j, ltb_j, leb_j, inb_j, ix_j, ix_n, nz_b, nz_0, nz_1, eqb_b, bnot, vI_ne, vI_eq, gIL, gLI, gIR, gRI, gLR, gRL, Int.reduceLT, Int.reduceLE, Int.reduceEq, Int.reduceAdd, Int.reduceSub, Int.reduceMul, Int.reduceNeg, Int.reduceToNat, Nat.reduceEqDiff, reduceIte, if_neg, if_pos, gI_ne]
              rfl
      have k0 := key (qTlen j) 0 FU (by omega) (by rw [FU_d]; omega)
      have e : pd (∀ k, 0 ≤ k → k < qTlen j → d (f + k) = tx j k) = pd (∀ i, i < qTlen j → d (f + i) = tx j i) := by
        rw [Bool.eq_iff_iff, pd_iff, pd_iff]
        exact ⟨fun h j h2 => h j (Nat.zero_le _) h2, fun h j _ h2 => h j h2⟩
      rw [e] at k0
      simp (disch := omega) only [fX13_is_0, fX13_is_15, qtx_t j hj, len_s j hj, qbI_s, qbL_s, qbV_s, qbR_s, qbR_n, qbN_s, qbN_n, qbIX_s, qbIX_n, qbVX_s, qbVX_n, cond_true, cond_false, cond_dec, jadd, jsub, jmul, jneg, li_0, li_1, li_2, li_3, li_4, li_5, li_6, li_7, li_8, li_9, li_10, li_14, li_15, li_16, li_19, li_20, li_24, li_30, li_31, li_32, li_39, li_40, li_48, li_57, li_59, li_60, li_63, li_65, li_80, li_81, li_90, li_97, li_99, li_100, li_122, li_126, li_127, li_150, li_160, li_200, li_225, li_255, li_400, li_799, li_800, li_999, li_2400, li_3239, li_3240, li_1048575, li_1431655765, li_858993459, li_252645135, eqb_j, ltb_j, leb_j, inb_j, ix_j, ix_n, nz_b, nz_0, nz_1, eqb_b, bnot, vI_ne, vI_eq, gIL, gLI, gIR, gRI, gLR, gRL, Int.reduceLT, Int.reduceLE, Int.reduceEq, Int.reduceAdd, Int.reduceSub, Int.reduceMul, Int.reduceNeg, Int.reduceToNat, Nat.reduceEqDiff, reduceIte, if_neg, if_pos, gI_ne, gIv 98, h14, h15, h16]
      exact k0
    · rw [decide_eq_false g2, Bool.false_and]
      simp (disch := omega) only [fX13_is_0, fX13_is_14, fX13_is_15, qtx_t j hj, len_s j hj, qbI_s, qbL_s, qbV_s, qbR_s, qbR_n, qbN_s, qbN_n, qbIX_s, qbIX_n, qbVX_s, qbVX_n, cond_true, cond_false, cond_dec, jadd, jsub, jmul, jneg, li_0, li_1, li_2, li_3, li_4, li_5, li_6, li_7, li_8, li_9, li_10, li_14, li_15, li_16, li_19, li_20, li_24, li_30, li_31, li_32, li_39, li_40, li_48, li_57, li_59, li_60, li_63, li_65, li_80, li_81, li_90, li_97, li_99, li_100, li_122, li_126, li_127, li_150, li_160, li_200, li_225, li_255, li_400, li_799, li_800, li_999, li_2400, li_3239, li_3240, li_1048575, li_1431655765, li_858993459, li_252645135, eqb_j, ltb_j, leb_j, inb_j, ix_j, ix_n, nz_b, nz_0, nz_1, eqb_b, bnot, vI_ne, vI_eq, gIL, gLI, gIR, gRI, gLR, gRL, Int.reduceLT, Int.reduceLE, Int.reduceEq, Int.reduceAdd, Int.reduceSub, Int.reduceMul, Int.reduceNeg, Int.reduceToNat, Nat.reduceEqDiff, reduceIte, if_neg, if_pos, gI_ne, gIv 98, h14, h15, h16]
      rw [hF]
      exact e14 F
  · rw [decide_eq_false g1, Bool.false_and]
    simp (disch := omega) only [fX13_is_0, fX13_is_14, fX13_is_15, qtx_t j hj, len_s j hj, qbI_s, qbL_s, qbV_s, qbR_s, qbR_n, qbN_s, qbN_n, qbIX_s, qbIX_n, qbVX_s, qbVX_n, cond_true, cond_false, cond_dec, jadd, jsub, jmul, jneg, li_0, li_1, li_2, li_3, li_4, li_5, li_6, li_7, li_8, li_9, li_10, li_14, li_15, li_16, li_19, li_20, li_24, li_30, li_31, li_32, li_39, li_40, li_48, li_57, li_59, li_60, li_63, li_65, li_80, li_81, li_90, li_97, li_99, li_100, li_122, li_126, li_127, li_150, li_160, li_200, li_225, li_255, li_400, li_799, li_800, li_999, li_2400, li_3239, li_3240, li_1048575, li_1431655765, li_858993459, li_252645135, eqb_j, ltb_j, leb_j, inb_j, ix_j, ix_n, nz_b, nz_0, nz_1, eqb_b, bnot, vI_ne, vI_eq, gIL, gLI, gIR, gRI, gLR, gRL, Int.reduceLT, Int.reduceLE, Int.reduceEq, Int.reduceAdd, Int.reduceSub, Int.reduceMul, Int.reduceNeg, Int.reduceToNat, Nat.reduceEqDiff, reduceIte, if_neg, if_pos, gI_ne, gIv 98, h14, h15, h16]
    rw [hF]
    exact e14 F
/-! the class's own: words out of a row of them -/
noncomputable def sgB (d : Nat → Int) (f u T s e : Nat) : Bool := decide (e - s = u - f) && pd (∀ i, i < e - s → tx T (s + i) = d (f + i))
theorem isText_s (w : qM) (d : Nat → Int) (n : Nat) (hT : TC w d n) (f u : Nat) (h2 : vI w 3 2 = f) (h3 : vI w 3 3 = u) (hfu : f ≤ u ∧ u ≤ n) (T : Nat) (hj : T < 27) (s e : Nat) (hse : s ≤ e) (he : e ≤ qTlen T) : fX6_isText (10100 + T) (Zi s) (Zi e) w = some (Zi (bI (sgB d f u T s e)), w) := by
  have hn := hT.2.1
  obtain ⟨l1, l2, l3⟩ := len_all T hj
  rw [fX6_isText_d]
  unfold sgB
  by_cases g2 : e - s = u - f
  · rw [decide_eq_true g2, Bool.true_and]
    have key : ∀ (r i g : Nat), i + r = e - s → r < g → fX6_isText_13 g (10100 + T) (Zi s) (Zi e) (Zi i) w = some (Zi (bI (pd (∀ k, i ≤ k → k < e - s → tx T (s + k) = d (f + k)))), w) := by
      intro r
      induction r with
      | zero =>
        intro i g hi hg
        obtain ⟨g, rfl⟩ : ∃ g', g = g' + 1 := ⟨g - 1, by omega⟩
        rw [pd_t (fun k h1 h2 => by omega)]
        simp (disch := omega) only [fX6_isText_13, qbI_s, qbL_s, qbV_s, qbR_s, qbR_n, qbN_s, qbN_n, qbIX_s, qbIX_n, qbVX_s, qbVX_n, cond_true, cond_false, cond_dec, jadd, jsub, jmul, jneg, li_0, li_1, li_2, li_3, li_4, li_5, li_6, li_7, li_8, li_9, li_10, li_14, li_15, li_16, li_19, li_20, li_24, li_30, li_31, li_32, li_39, li_40, li_48, li_57, li_59, li_60, li_63, li_65, li_80, li_81, li_90, li_97, li_99, li_100, li_122, li_126, li_127, li_150, li_160, li_200, li_225, li_255, li_400, li_799, li_800, li_999, li_2400, li_3239, li_3240, li_1048575, li_1431655765, li_858993459, li_252645135, eqb_j, ltb_j, leb_j, inb_j, ix_j, ix_n, nz_b, nz_0, nz_1, eqb_b, bnot, vI_ne, vI_eq, gIL, gLI, gIR, gRI, gLR, gRL, Int.reduceLT, Int.reduceLE, Int.reduceEq, Int.reduceAdd, Int.reduceSub, Int.reduceMul, Int.reduceNeg, Int.reduceToNat, Nat.reduceEqDiff, reduceIte, if_neg, if_pos, gI_ne]
        rfl
      | succ r ih =>
        intro i g hi hg
        obtain ⟨g, rfl⟩ : ∃ g', g = g' + 1 := ⟨g - 1, by omega⟩
        have ih2 := ih (i + 1) g (by omega) (by omega)
        have hb := byC hT (f + i) (by omega)
        rw [if_pos (by omega), show ((f + i : Nat) : Int) = (f : Int) + i by omega] at hb
        have hd := (hT.2.2 (f + i) (by omega)).2
        have ht := (tx_all T hj (s + i) (by omega)).1
        have hc := chr_s T hj (s + i) (by omega) w
        rw [show ((s + i : Nat) : Int) = (s : Int) + i by omega] at hc
        by_cases c : tx T (s + i) = d (f + i)
        · have e : pd (∀ k, i ≤ k → k < e - s → tx T (s + k) = d (f + k)) = pd (∀ k, i + 1 ≤ k → k < e - s → tx T (s + k) = d (f + k)) := by
            rw [Bool.eq_iff_iff, pd_iff, pd_iff]
            exact ⟨fun h k h1 h2 => h k (by omega) h2, fun h k h1 h2 => by
              by_cases e : k = i
              · rw [e]; exact c
              · exact h k (by omega) h2⟩
          rw [e]
          simp (disch := omega) only [fX6_isText_13, qtx_t T hj, qbI_s, qbL_s, qbV_s, qbR_s, qbR_n, qbN_s, qbN_n, qbIX_s, qbIX_n, qbVX_s, qbVX_n, cond_true, cond_false, cond_dec, jadd, jsub, jmul, jneg, li_0, li_1, li_2, li_3, li_4, li_5, li_6, li_7, li_8, li_9, li_10, li_14, li_15, li_16, li_19, li_20, li_24, li_30, li_31, li_32, li_39, li_40, li_48, li_57, li_59, li_60, li_63, li_65, li_80, li_81, li_90, li_97, li_99, li_100, li_122, li_126, li_127, li_150, li_160, li_200, li_225, li_255, li_400, li_799, li_800, li_999, li_2400, li_3239, li_3240, li_1048575, li_1431655765, li_858993459, li_252645135, eqb_j, ltb_j, leb_j, inb_j, ix_j, ix_n, nz_b, nz_0, nz_1, eqb_b, bnot, vI_ne, vI_eq, gIL, gLI, gIR, gRI, gLR, gRL, Int.reduceLT, Int.reduceLE, Int.reduceEq, Int.reduceAdd, Int.reduceSub, Int.reduceMul, Int.reduceNeg, Int.reduceToNat, Nat.reduceEqDiff, reduceIte, if_neg, if_pos, gI_ne, gIv 3, h2, hb, hc, c]
          exact ih2
        · rw [pd_f (fun h => c (h i (Nat.le_refl _) (by omega)))]
          simp (disch := omega) only [fX6_isText_13, qtx_t T hj, qbI_s, qbL_s, qbV_s, qbR_s, qbR_n, qbN_s, qbN_n, qbIX_s, qbIX_n, qbVX_s, qbVX_n, cond_true, cond_false, cond_dec, jadd, jsub, jmul, jneg, li_0, li_1, li_2, li_3, li_4, li_5, li_6, li_7, li_8, li_9, li_10, li_14, li_15, li_16, li_19, li_20, li_24, li_30, li_31, li_32, li_39, li_40, li_48, li_57, li_59, li_60, li_63, li_65, li_80, li_81, li_90, li_97, li_99, li_100, li_122, li_126, li_127, li_150, li_160, li_200, li_225, li_255, li_400, li_799, li_800, li_999, li_2400, li_3239, li_3240, li_1048575, li_1431655765, li_858993459, li_252645135, eqb_j, ltb_j, leb_j, inb_j, ix_j, ix_n, nz_b, nz_0, nz_1, eqb_b, bnot, vI_ne, vI_eq, gIL, gLI, gIR, gRI, gLR, gRL, Int.reduceLT, Int.reduceLE, Int.reduceEq, Int.reduceAdd, Int.reduceSub, Int.reduceMul, Int.reduceNeg, Int.reduceToNat, Nat.reduceEqDiff, reduceIte, if_neg, if_pos, gI_ne, gIv 3, h2, hb, hc]
          rfl
    have k0 := key (e - s) 0 FU (by omega) (by rw [FU_d]; omega)
    have e0 : pd (∀ k, 0 ≤ k → k < e - s → tx T (s + k) = d (f + k)) = pd (∀ i, i < e - s → tx T (s + i) = d (f + i)) := by
      rw [Bool.eq_iff_iff, pd_iff, pd_iff]
      exact ⟨fun h j h2 => h j (Nat.zero_le _) h2, fun h j _ h2 => h j h2⟩
    rw [e0] at k0
    simp (disch := omega) only [fX6_isText_0, qbI_s, qbL_s, qbV_s, qbR_s, qbR_n, qbN_s, qbN_n, qbIX_s, qbIX_n, qbVX_s, qbVX_n, cond_true, cond_false, cond_dec, jadd, jsub, jmul, jneg, li_0, li_1, li_2, li_3, li_4, li_5, li_6, li_7, li_8, li_9, li_10, li_14, li_15, li_16, li_19, li_20, li_24, li_30, li_31, li_32, li_39, li_40, li_48, li_57, li_59, li_60, li_63, li_65, li_80, li_81, li_90, li_97, li_99, li_100, li_122, li_126, li_127, li_150, li_160, li_200, li_225, li_255, li_400, li_799, li_800, li_999, li_2400, li_3239, li_3240, li_1048575, li_1431655765, li_858993459, li_252645135, eqb_j, ltb_j, leb_j, inb_j, ix_j, ix_n, nz_b, nz_0, nz_1, eqb_b, bnot, vI_ne, vI_eq, gIL, gLI, gIR, gRI, gLR, gRL, Int.reduceLT, Int.reduceLE, Int.reduceEq, Int.reduceAdd, Int.reduceSub, Int.reduceMul, Int.reduceNeg, Int.reduceToNat, Nat.reduceEqDiff, reduceIte, if_neg, if_pos, gI_ne, gIv 3, h2, h3]
    exact k0
  · rw [decide_eq_false g2, Bool.false_and]
    simp (disch := omega) only [fX6_isText_0, qbI_s, qbL_s, qbV_s, qbR_s, qbR_n, qbN_s, qbN_n, qbIX_s, qbIX_n, qbVX_s, qbVX_n, cond_true, cond_false, cond_dec, jadd, jsub, jmul, jneg, li_0, li_1, li_2, li_3, li_4, li_5, li_6, li_7, li_8, li_9, li_10, li_14, li_15, li_16, li_19, li_20, li_24, li_30, li_31, li_32, li_39, li_40, li_48, li_57, li_59, li_60, li_63, li_65, li_80, li_81, li_90, li_97, li_99, li_100, li_122, li_126, li_127, li_150, li_160, li_200, li_225, li_255, li_400, li_799, li_800, li_999, li_2400, li_3239, li_3240, li_1048575, li_1431655765, li_858993459, li_252645135, eqb_j, ltb_j, leb_j, inb_j, ix_j, ix_n, nz_b, nz_0, nz_1, eqb_b, bnot, vI_ne, vI_eq, gIL, gLI, gIR, gRI, gLR, gRL, Int.reduceLT, Int.reduceLE, Int.reduceEq, Int.reduceAdd, Int.reduceSub, Int.reduceMul, Int.reduceNeg, Int.reduceToNat, Nat.reduceEqDiff, reduceIte, if_neg, if_pos, gI_ne, gIv 3, h2, h3]
    rfl
/-- the number of the word in the row that is the segment, -1 if none is -/
def woP (T : Nat) (P : Nat → Nat → Bool) : Nat → Nat → Nat → Nat → Int
  | 0, _, _, _ => -1
  | r + 1, a, s, e => if e = qTlen T then (if P s e = true then (a : Int) else -1) else if tx T e = 32 then (if P s e = true then (a : Int) else woP T P r (a + 1) (e + 1) (e + 1)) else woP T P r a s (e + 1)
theorem wordOf_s (w : qM) (d : Nat → Int) (n : Nat) (hT : TC w d n) (f u : Nat) (K : Int) (h1 : vI w 3 1 = K) (h2 : vI w 3 2 = f) (h3 : vI w 3 3 = u) (hfu : f ≤ u ∧ u ≤ n) (hK : 0 ≤ K ∧ K ≤ 4) (T : Nat) (hj : T < 27) : fX6_wordOf (10100 + T) w = some (Zi (if K = 1 then woP T (sgB d f u T) (qTlen T + 1) 0 0 0 else -1), w) := by
  obtain ⟨l1, l2, l3⟩ := len_all T hj
  have key : ∀ (r a s e g : Nat), e + r = qTlen T + 1 → 1 ≤ r → r + 1 < g → s ≤ e → a ≤ e → fX6_wordOf_12 g (10100 + T) (Zi a) (Zi s) (Zi e) w = some (Zi (woP T (sgB d f u T) r a s e), w) := by
    intro r
    induction r with
    | zero => intro a s e g h1 h2; omega
    | succ r ih =>
      intro a s e g hi _ hg hse hae
      obtain ⟨g, rfl⟩ : ∃ g', g = g' + 2 := ⟨g - 2, by omega⟩
      have it := isText_s w d n hT f u h2 h3 hfu T hj s e hse (by omega)
      rw [woP]
      by_cases g1 : e = qTlen T
      · rw [if_pos g1]
        cases c : sgB d f u T s e
        · rw [c] at it
          rw [if_neg (by decide)]
          rw [fX6_wordOf_12]
          simp (disch := omega) only [fX6_wordOf_25, fX6_wordOf_38, qtx_t T hj, len_s T hj, it, qbI_s, qbL_s, qbV_s, qbR_s, qbR_n, qbN_s, qbN_n, qbIX_s, qbIX_n, qbVX_s, qbVX_n, cond_true, cond_false, cond_dec, jadd, jsub, jmul, jneg, li_0, li_1, li_2, li_3, li_4, li_5, li_6, li_7, li_8, li_9, li_10, li_14, li_15, li_16, li_19, li_20, li_24, li_30, li_31, li_32, li_39, li_40, li_48, li_57, li_59, li_60, li_63, li_65, li_80, li_81, li_90, li_97, li_99, li_100, li_122, li_126, li_127, li_150, li_160, li_200, li_225, li_255, li_400, li_799, li_800, li_999, li_2400, li_3239, li_3240, li_1048575, li_1431655765, li_858993459, li_252645135, eqb_j, ltb_j, leb_j, inb_j, ix_j, ix_n, nz_b, nz_0, nz_1, eqb_b, bnot, vI_ne, vI_eq, gIL, gLI, gIR, gRI, gLR, gRL, Int.reduceLT, Int.reduceLE, Int.reduceEq, Int.reduceAdd, Int.reduceSub, Int.reduceMul, Int.reduceNeg, Int.reduceToNat, Nat.reduceEqDiff, reduceIte, if_neg, if_pos, gI_ne, show bI false = 0 from rfl]
          simp (disch := omega) only [fX6_wordOf_12, qtx_t T hj, len_s T hj, qbI_s, qbL_s, qbV_s, qbR_s, qbR_n, qbN_s, qbN_n, qbIX_s, qbIX_n, qbVX_s, qbVX_n, cond_true, cond_false, cond_dec, jadd, jsub, jmul, jneg, li_0, li_1, li_2, li_3, li_4, li_5, li_6, li_7, li_8, li_9, li_10, li_14, li_15, li_16, li_19, li_20, li_24, li_30, li_31, li_32, li_39, li_40, li_48, li_57, li_59, li_60, li_63, li_65, li_80, li_81, li_90, li_97, li_99, li_100, li_122, li_126, li_127, li_150, li_160, li_200, li_225, li_255, li_400, li_799, li_800, li_999, li_2400, li_3239, li_3240, li_1048575, li_1431655765, li_858993459, li_252645135, eqb_j, ltb_j, leb_j, inb_j, ix_j, ix_n, nz_b, nz_0, nz_1, eqb_b, bnot, vI_ne, vI_eq, gIL, gLI, gIR, gRI, gLR, gRL, Int.reduceLT, Int.reduceLE, Int.reduceEq, Int.reduceAdd, Int.reduceSub, Int.reduceMul, Int.reduceNeg, Int.reduceToNat, Nat.reduceEqDiff, reduceIte, if_neg, if_pos, gI_ne]
        · rw [c] at it
          rw [if_pos rfl]
          rw [fX6_wordOf_12]
          simp (disch := omega) only [fX6_wordOf_25, fX6_wordOf_38, qtx_t T hj, len_s T hj, it, qbI_s, qbL_s, qbV_s, qbR_s, qbR_n, qbN_s, qbN_n, qbIX_s, qbIX_n, qbVX_s, qbVX_n, cond_true, cond_false, cond_dec, jadd, jsub, jmul, jneg, li_0, li_1, li_2, li_3, li_4, li_5, li_6, li_7, li_8, li_9, li_10, li_14, li_15, li_16, li_19, li_20, li_24, li_30, li_31, li_32, li_39, li_40, li_48, li_57, li_59, li_60, li_63, li_65, li_80, li_81, li_90, li_97, li_99, li_100, li_122, li_126, li_127, li_150, li_160, li_200, li_225, li_255, li_400, li_799, li_800, li_999, li_2400, li_3239, li_3240, li_1048575, li_1431655765, li_858993459, li_252645135, eqb_j, ltb_j, leb_j, inb_j, ix_j, ix_n, nz_b, nz_0, nz_1, eqb_b, bnot, vI_ne, vI_eq, gIL, gLI, gIR, gRI, gLR, gRL, Int.reduceLT, Int.reduceLE, Int.reduceEq, Int.reduceAdd, Int.reduceSub, Int.reduceMul, Int.reduceNeg, Int.reduceToNat, Nat.reduceEqDiff, reduceIte, if_neg, if_pos, gI_ne, show bI true = 1 from rfl]
      · rw [if_neg g1]
        have hc := chr_s T hj e (by omega) w
        have ht := (tx_all T hj e (by omega)).1
        by_cases g2 : tx T e = 32
        · rw [if_pos g2]
          cases c : sgB d f u T s e
          · rw [c] at it
            rw [if_neg (by decide)]
            have ih2 := ih (a + 1) (e + 1) (e + 1) (g + 1) (by omega) (by omega) (by omega) (by omega) (by omega)
            rw [fX6_wordOf_12]
            simp (disch := omega) only [fX6_wordOf_25, fX6_wordOf_38, qtx_t T hj, len_s T hj, it, hc, g2, qbI_s, qbL_s, qbV_s, qbR_s, qbR_n, qbN_s, qbN_n, qbIX_s, qbIX_n, qbVX_s, qbVX_n, cond_true, cond_false, cond_dec, jadd, jsub, jmul, jneg, li_0, li_1, li_2, li_3, li_4, li_5, li_6, li_7, li_8, li_9, li_10, li_14, li_15, li_16, li_19, li_20, li_24, li_30, li_31, li_32, li_39, li_40, li_48, li_57, li_59, li_60, li_63, li_65, li_80, li_81, li_90, li_97, li_99, li_100, li_122, li_126, li_127, li_150, li_160, li_200, li_225, li_255, li_400, li_799, li_800, li_999, li_2400, li_3239, li_3240, li_1048575, li_1431655765, li_858993459, li_252645135, eqb_j, ltb_j, leb_j, inb_j, ix_j, ix_n, nz_b, nz_0, nz_1, eqb_b, bnot, vI_ne, vI_eq, gIL, gLI, gIR, gRI, gLR, gRL, Int.reduceLT, Int.reduceLE, Int.reduceEq, Int.reduceAdd, Int.reduceSub, Int.reduceMul, Int.reduceNeg, Int.reduceToNat, Nat.reduceEqDiff, reduceIte, if_neg, if_pos, gI_ne, show bI false = 0 from rfl]
            exact ih2
          · rw [c] at it
            rw [if_pos rfl]
            rw [fX6_wordOf_12]
            simp (disch := omega) only [fX6_wordOf_25, fX6_wordOf_38, qtx_t T hj, len_s T hj, it, hc, g2, qbI_s, qbL_s, qbV_s, qbR_s, qbR_n, qbN_s, qbN_n, qbIX_s, qbIX_n, qbVX_s, qbVX_n, cond_true, cond_false, cond_dec, jadd, jsub, jmul, jneg, li_0, li_1, li_2, li_3, li_4, li_5, li_6, li_7, li_8, li_9, li_10, li_14, li_15, li_16, li_19, li_20, li_24, li_30, li_31, li_32, li_39, li_40, li_48, li_57, li_59, li_60, li_63, li_65, li_80, li_81, li_90, li_97, li_99, li_100, li_122, li_126, li_127, li_150, li_160, li_200, li_225, li_255, li_400, li_799, li_800, li_999, li_2400, li_3239, li_3240, li_1048575, li_1431655765, li_858993459, li_252645135, eqb_j, ltb_j, leb_j, inb_j, ix_j, ix_n, nz_b, nz_0, nz_1, eqb_b, bnot, vI_ne, vI_eq, gIL, gLI, gIR, gRI, gLR, gRL, Int.reduceLT, Int.reduceLE, Int.reduceEq, Int.reduceAdd, Int.reduceSub, Int.reduceMul, Int.reduceNeg, Int.reduceToNat, Nat.reduceEqDiff, reduceIte, if_neg, if_pos, gI_ne, show bI true = 1 from rfl]
        · rw [if_neg g2]
          have ih2 := ih a s (e + 1) (g + 1) (by omega) (by omega) (by omega) (by omega) (by omega)
          rw [fX6_wordOf_12]
          simp (disch := omega) only [fX6_wordOf_25, fX6_wordOf_38, qtx_t T hj, len_s T hj, it, hc, qbI_s, qbL_s, qbV_s, qbR_s, qbR_n, qbN_s, qbN_n, qbIX_s, qbIX_n, qbVX_s, qbVX_n, cond_true, cond_false, cond_dec, jadd, jsub, jmul, jneg, li_0, li_1, li_2, li_3, li_4, li_5, li_6, li_7, li_8, li_9, li_10, li_14, li_15, li_16, li_19, li_20, li_24, li_30, li_31, li_32, li_39, li_40, li_48, li_57, li_59, li_60, li_63, li_65, li_80, li_81, li_90, li_97, li_99, li_100, li_122, li_126, li_127, li_150, li_160, li_200, li_225, li_255, li_400, li_799, li_800, li_999, li_2400, li_3239, li_3240, li_1048575, li_1431655765, li_858993459, li_252645135, eqb_j, ltb_j, leb_j, inb_j, ix_j, ix_n, nz_b, nz_0, nz_1, eqb_b, bnot, vI_ne, vI_eq, gIL, gLI, gIR, gRI, gLR, gRL, Int.reduceLT, Int.reduceLE, Int.reduceEq, Int.reduceAdd, Int.reduceSub, Int.reduceMul, Int.reduceNeg, Int.reduceToNat, Nat.reduceEqDiff, reduceIte, if_neg, if_pos, gI_ne]
          exact ih2
  have k0 := key (qTlen T + 1) 0 0 0 FU (by omega) (by omega) (by rw [FU_d]; omega) (Nat.le_refl _) (Nat.le_refl _)
  rw [fX6_wordOf_d]
  by_cases g : K = 1
  · rw [if_pos g]
    simp (disch := omega) only [fX6_wordOf_0, qbI_s, qbL_s, qbV_s, qbR_s, qbR_n, qbN_s, qbN_n, qbIX_s, qbIX_n, qbVX_s, qbVX_n, cond_true, cond_false, cond_dec, jadd, jsub, jmul, jneg, li_0, li_1, li_2, li_3, li_4, li_5, li_6, li_7, li_8, li_9, li_10, li_14, li_15, li_16, li_19, li_20, li_24, li_30, li_31, li_32, li_39, li_40, li_48, li_57, li_59, li_60, li_63, li_65, li_80, li_81, li_90, li_97, li_99, li_100, li_122, li_126, li_127, li_150, li_160, li_200, li_225, li_255, li_400, li_799, li_800, li_999, li_2400, li_3239, li_3240, li_1048575, li_1431655765, li_858993459, li_252645135, eqb_j, ltb_j, leb_j, inb_j, ix_j, ix_n, nz_b, nz_0, nz_1, eqb_b, bnot, vI_ne, vI_eq, gIL, gLI, gIR, gRI, gLR, gRL, Int.reduceLT, Int.reduceLE, Int.reduceEq, Int.reduceAdd, Int.reduceSub, Int.reduceMul, Int.reduceNeg, Int.reduceToNat, Nat.reduceEqDiff, reduceIte, if_neg, if_pos, gI_ne, gIv 3, h1]
    exact k0
  · rw [if_neg g]
    simp (disch := omega) only [fX6_wordOf_0, qbI_s, qbL_s, qbV_s, qbR_s, qbR_n, qbN_s, qbN_n, qbIX_s, qbIX_n, qbVX_s, qbVX_n, cond_true, cond_false, cond_dec, jadd, jsub, jmul, jneg, li_0, li_1, li_2, li_3, li_4, li_5, li_6, li_7, li_8, li_9, li_10, li_14, li_15, li_16, li_19, li_20, li_24, li_30, li_31, li_32, li_39, li_40, li_48, li_57, li_59, li_60, li_63, li_65, li_80, li_81, li_90, li_97, li_99, li_100, li_122, li_126, li_127, li_150, li_160, li_200, li_225, li_255, li_400, li_799, li_800, li_999, li_2400, li_3239, li_3240, li_1048575, li_1431655765, li_858993459, li_252645135, eqb_j, ltb_j, leb_j, inb_j, ix_j, ix_n, nz_b, nz_0, nz_1, eqb_b, bnot, vI_ne, vI_eq, gIL, gLI, gIR, gRI, gLR, gRL, Int.reduceLT, Int.reduceLE, Int.reduceEq, Int.reduceAdd, Int.reduceSub, Int.reduceMul, Int.reduceNeg, Int.reduceToNat, Nat.reduceEqDiff, reduceIte, if_neg, if_pos, gI_ne, gIv 3, h1]
