/-! notes -/
theorem and255 : ∀ n : Nat, n < 256 → (Zi ((n : Int) - 128) &&& (255 : Int32)) = Zi (if n < 128 then (n : Int) + 128 else (n : Int) - 128) := by decide +kernel
theorem byte_v {m : qM} (hT : RTape m) (k : Nat) (hk : k < 400) : vI m 2 k = (if vI m 110 k < 0 then vI m 110 k + 256 else vI m 110 k) := by
  obtain ⟨t1, t2, t3, t4, t5⟩ := hT
  have h5 := t5 k hk
  have h4 := t4 k hk
  obtain ⟨n, hn⟩ : ∃ n : Nat, vI m 110 k = (n : Int) - 128 := ⟨(vI m 110 k + 128).toNat, by omega⟩
  rw [gIv 110, hn, and255 n (by omega)] at h4
  rw [vI_Zi h4 (by split <;> omega), hn]
  split <;> split <;> omega
theorem byteAt_s (m : qM) (hT : RTape m) (i : Nat) : fX8_byteAt (Zi i) m = some (Zi (if (i : Int) < vI m 1 1 then vI m 2 i else -1), m) ∨ 2147483648 ≤ i := by
  obtain ⟨t1, t2, t3, t4, t5⟩ := hT
  by_cases hi : i < 2147483648
  · left
    rw [fX8_byteAt_d]
    by_cases h : (i : Int) < vI m 1 1
    · rw [if_pos h]
      simp (disch := omega) only [fX8_byteAt_0, fX8_byteAt_11, fX8_byteAt_12, qbI_s, qbL_s, qbV_s, qbR_s, qbR_n, qbN_s, qbN_n, qbIX_s, qbIX_n, qbVX_s, qbVX_n, cond_true, cond_false, cond_dec, jadd, jsub, jmul, jneg, li_0, li_1, li_2, li_3, li_4, li_5, li_6, li_7, li_8, li_9, li_10, li_14, li_15, li_16, li_19, li_20, li_24, li_30, li_31, li_32, li_39, li_40, li_48, li_57, li_59, li_60, li_63, li_65, li_80, li_81, li_90, li_97, li_99, li_100, li_122, li_126, li_127, li_150, li_160, li_200, li_225, li_255, li_400, li_799, li_800, li_999, li_2400, li_3239, li_3240, li_1048575, li_1431655765, li_858993459, li_252645135, eqb_j, ltb_j, leb_j, inb_j, ix_j, ix_n, nz_b, nz_0, nz_1, eqb_b, bnot, vI_ne, vI_eq, gIL, gLI, gIR, gRI, gLR, gRL, Int.reduceLT, Int.reduceLE, Int.reduceEq, Int.reduceAdd, Int.reduceSub, Int.reduceMul, Int.reduceNeg, Int.reduceToNat, Nat.reduceEqDiff, reduceIte, if_neg, if_pos, gI_ne, gIv 1, gIv 2]
    · rw [if_neg h]
      simp (disch := omega) only [fX8_byteAt_0, fX8_byteAt_11, fX8_byteAt_12, qbI_s, qbL_s, qbV_s, qbR_s, qbR_n, qbN_s, qbN_n, qbIX_s, qbIX_n, qbVX_s, qbVX_n, cond_true, cond_false, cond_dec, jadd, jsub, jmul, jneg, li_0, li_1, li_2, li_3, li_4, li_5, li_6, li_7, li_8, li_9, li_10, li_14, li_15, li_16, li_19, li_20, li_24, li_30, li_31, li_32, li_39, li_40, li_48, li_57, li_59, li_60, li_63, li_65, li_80, li_81, li_90, li_97, li_99, li_100, li_122, li_126, li_127, li_150, li_160, li_200, li_225, li_255, li_400, li_799, li_800, li_999, li_2400, li_3239, li_3240, li_1048575, li_1431655765, li_858993459, li_252645135, eqb_j, ltb_j, leb_j, inb_j, ix_j, ix_n, nz_b, nz_0, nz_1, eqb_b, bnot, vI_ne, vI_eq, gIL, gLI, gIR, gRI, gLR, gRL, Int.reduceLT, Int.reduceLE, Int.reduceEq, Int.reduceAdd, Int.reduceSub, Int.reduceMul, Int.reduceNeg, Int.reduceToNat, Nat.reduceEqDiff, reduceIte, if_neg, if_pos, gI_ne, gIv 1]
  · right; omega
noncomputable def noteB (m : qM) (n : Nat) : Bool := decide (1 ≤ n ∧ n ≤ 60) && pd (∀ i, i < n → 32 ≤ vI m 110 i ∧ vI m 110 i ≤ 126)
theorem isNote_s (m : qM) (hT : RTape m) (n : Nat) (hn : vI m 1 1 = n) : fX2_isNote m = some (Zi (bI (noteB m n)), m) := by
  have h400 := hT.2.1
  rw [fX2_isNote_d]
  unfold noteB
  by_cases h : 1 ≤ n ∧ n ≤ 60
  · have key : ∀ (r i g : Nat), i + r = n → r < g → fX2_isNote_10 g (Zi i) m = some (Zi (bI (pd (∀ j, i ≤ j → j < n → 32 ≤ vI m 110 j ∧ vI m 110 j ≤ 126))), m) := by
      intro r
      induction r with
      | zero =>
        intro i g hi hg
        obtain ⟨g, rfl⟩ : ∃ g', g = g' + 1 := ⟨g - 1, by omega⟩
        rw [pd_t (fun j h1 h2 => by omega)]
        simp (disch := omega) only [fX2_isNote_10, fX8_size_d, fX8_size_0, qbI_s, qbL_s, qbV_s, qbR_s, qbR_n, qbN_s, qbN_n, qbIX_s, qbIX_n, qbVX_s, qbVX_n, cond_true, cond_false, cond_dec, jadd, jsub, jmul, jneg, li_0, li_1, li_2, li_3, li_4, li_5, li_6, li_7, li_8, li_9, li_10, li_14, li_15, li_16, li_19, li_20, li_24, li_30, li_31, li_32, li_39, li_40, li_48, li_57, li_59, li_60, li_63, li_65, li_80, li_81, li_90, li_97, li_99, li_100, li_122, li_126, li_127, li_150, li_160, li_200, li_225, li_255, li_400, li_799, li_800, li_999, li_2400, li_3239, li_3240, li_1048575, li_1431655765, li_858993459, li_252645135, eqb_j, ltb_j, leb_j, inb_j, ix_j, ix_n, nz_b, nz_0, nz_1, eqb_b, bnot, vI_ne, vI_eq, gIL, gLI, gIR, gRI, gLR, gRL, Int.reduceLT, Int.reduceLE, Int.reduceEq, Int.reduceAdd, Int.reduceSub, Int.reduceMul, Int.reduceNeg, Int.reduceToNat, Nat.reduceEqDiff, reduceIte, if_neg, if_pos, gI_ne, gIv 1, hn]
        rfl
      | succ r ih =>
        intro i g hi hg
        obtain ⟨g, rfl⟩ : ∃ g', g = g' + 1 := ⟨g - 1, by omega⟩
        have ih2 := ih (i + 1) g (by omega) (by omega)
        have hb := byte_v hT i (by omega)
        have h5 := hT.2.2.2.2 i (by omega)
        have ba : fX8_byteAt (Zi i) m = some (Zi (vI m 2 i), m) := by
          rcases byteAt_s m hT i with h9 | h9
          · rw [h9, if_pos (by omega)]
          · omega
        by_cases hv : 32 ≤ vI m 110 i ∧ vI m 110 i ≤ 126
        · rw [if_neg (by omega)] at hb
          rw [hb] at ba
          have e : pd (∀ j, i ≤ j → j < n → 32 ≤ vI m 110 j ∧ vI m 110 j ≤ 126) = pd (∀ j, i + 1 ≤ j → j < n → 32 ≤ vI m 110 j ∧ vI m 110 j ≤ 126) := by
            rw [Bool.eq_iff_iff, pd_iff, pd_iff]
            exact ⟨fun h j h1 h2 => h j (by omega) h2, fun h j h1 h2 => by
              by_cases e : j = i
              · rw [e]; exact hv
              · exact h j (by omega) h2⟩
          rw [e]
          simp (disch := omega) only [fX2_isNote_10, fX8_size_d, fX8_size_0, qbI_s, qbL_s, qbV_s, qbR_s, qbR_n, qbN_s, qbN_n, qbIX_s, qbIX_n, qbVX_s, qbVX_n, cond_true, cond_false, cond_dec, jadd, jsub, jmul, jneg, li_0, li_1, li_2, li_3, li_4, li_5, li_6, li_7, li_8, li_9, li_10, li_14, li_15, li_16, li_19, li_20, li_24, li_30, li_31, li_32, li_39, li_40, li_48, li_57, li_59, li_60, li_63, li_65, li_80, li_81, li_90, li_97, li_99, li_100, li_122, li_126, li_127, li_150, li_160, li_200, li_225, li_255, li_400, li_799, li_800, li_999, li_2400, li_3239, li_3240, li_1048575, li_1431655765, li_858993459, li_252645135, eqb_j, ltb_j, leb_j, inb_j, ix_j, ix_n, nz_b, nz_0, nz_1, eqb_b, bnot, vI_ne, vI_eq, gIL, gLI, gIR, gRI, gLR, gRL, Int.reduceLT, Int.reduceLE, Int.reduceEq, Int.reduceAdd, Int.reduceSub, Int.reduceMul, Int.reduceNeg, Int.reduceToNat, Nat.reduceEqDiff, reduceIte, if_neg, if_pos, gI_ne, gIv 1, hn, ba, within_s]
          exact ih2
        · rw [pd_f (fun h => hv (h i (Nat.le_refl _) (by omega)))]
          have hb2 : ¬ (32 ≤ vI m 2 i ∧ vI m 2 i ≤ 126) := by
            rw [hb]
            split <;> omega
          have hb3 := vI_r m 2 i
          simp (disch := omega) only [fX2_isNote_10, fX8_size_d, fX8_size_0, qbI_s, qbL_s, qbV_s, qbR_s, qbR_n, qbN_s, qbN_n, qbIX_s, qbIX_n, qbVX_s, qbVX_n, cond_true, cond_false, cond_dec, jadd, jsub, jmul, jneg, li_0, li_1, li_2, li_3, li_4, li_5, li_6, li_7, li_8, li_9, li_10, li_14, li_15, li_16, li_19, li_20, li_24, li_30, li_31, li_32, li_39, li_40, li_48, li_57, li_59, li_60, li_63, li_65, li_80, li_81, li_90, li_97, li_99, li_100, li_122, li_126, li_127, li_150, li_160, li_200, li_225, li_255, li_400, li_799, li_800, li_999, li_2400, li_3239, li_3240, li_1048575, li_1431655765, li_858993459, li_252645135, eqb_j, ltb_j, leb_j, inb_j, ix_j, ix_n, nz_b, nz_0, nz_1, eqb_b, bnot, vI_ne, vI_eq, gIL, gLI, gIR, gRI, gLR, gRL, Int.reduceLT, Int.reduceLE, Int.reduceEq, Int.reduceAdd, Int.reduceSub, Int.reduceMul, Int.reduceNeg, Int.reduceToNat, Nat.reduceEqDiff, reduceIte, if_neg, if_pos, gI_ne, gIv 1, hn, ba, within_s]
          rfl
    have k0 := key n 0 FU (by omega) (by rw [FU_d]; omega)
    rw [decide_eq_true h, Bool.true_and]
    have e : pd (∀ j, 0 ≤ j → j < n → 32 ≤ vI m 110 j ∧ vI m 110 j ≤ 126) = pd (∀ i, i < n → 32 ≤ vI m 110 i ∧ vI m 110 i ≤ 126) := by
      rw [Bool.eq_iff_iff, pd_iff, pd_iff]
      exact ⟨fun h j h2 => h j (Nat.zero_le _) h2, fun h j _ h2 => h j h2⟩
    rw [e] at k0
    simp (disch := omega) only [fX2_isNote_0, fX8_size_d, fX8_size_0, qbI_s, qbL_s, qbV_s, qbR_s, qbR_n, qbN_s, qbN_n, qbIX_s, qbIX_n, qbVX_s, qbVX_n, cond_true, cond_false, cond_dec, jadd, jsub, jmul, jneg, li_0, li_1, li_2, li_3, li_4, li_5, li_6, li_7, li_8, li_9, li_10, li_14, li_15, li_16, li_19, li_20, li_24, li_30, li_31, li_32, li_39, li_40, li_48, li_57, li_59, li_60, li_63, li_65, li_80, li_81, li_90, li_97, li_99, li_100, li_122, li_126, li_127, li_150, li_160, li_200, li_225, li_255, li_400, li_799, li_800, li_999, li_2400, li_3239, li_3240, li_1048575, li_1431655765, li_858993459, li_252645135, eqb_j, ltb_j, leb_j, inb_j, ix_j, ix_n, nz_b, nz_0, nz_1, eqb_b, bnot, vI_ne, vI_eq, gIL, gLI, gIR, gRI, gLR, gRL, Int.reduceLT, Int.reduceLE, Int.reduceEq, Int.reduceAdd, Int.reduceSub, Int.reduceMul, Int.reduceNeg, Int.reduceToNat, Nat.reduceEqDiff, reduceIte, if_neg, if_pos, gI_ne, gIv 1, hn, within_s]
    exact k0
  · rw [decide_eq_false h, Bool.false_and]
    simp (disch := omega) only [fX2_isNote_0, fX8_size_d, fX8_size_0, qbI_s, qbL_s, qbV_s, qbR_s, qbR_n, qbN_s, qbN_n, qbIX_s, qbIX_n, qbVX_s, qbVX_n, cond_true, cond_false, cond_dec, jadd, jsub, jmul, jneg, li_0, li_1, li_2, li_3, li_4, li_5, li_6, li_7, li_8, li_9, li_10, li_14, li_15, li_16, li_19, li_20, li_24, li_30, li_31, li_32, li_39, li_40, li_48, li_57, li_59, li_60, li_63, li_65, li_80, li_81, li_90, li_97, li_99, li_100, li_122, li_126, li_127, li_150, li_160, li_200, li_225, li_255, li_400, li_799, li_800, li_999, li_2400, li_3239, li_3240, li_1048575, li_1431655765, li_858993459, li_252645135, eqb_j, ltb_j, leb_j, inb_j, ix_j, ix_n, nz_b, nz_0, nz_1, eqb_b, bnot, vI_ne, vI_eq, gIL, gLI, gIR, gRI, gLR, gRL, Int.reduceLT, Int.reduceLE, Int.reduceEq, Int.reduceAdd, Int.reduceSub, Int.reduceMul, Int.reduceNeg, Int.reduceToNat, Nat.reduceEqDiff, reduceIte, if_neg, if_pos, gI_ne, gIv 1, hn, within_s]
    rfl
/-- bytes of the tape come into a note: the class's, the reference's -/
theorem noteC (m : qM) (hT : RTape m) (a n : Nat) (ha : a < 40) (hn : n ≤ 60) : ∀ (r i g : Nat) (w : qM), i + r = n → r < g → Fr (fun c k => c = 94 ∧ 60 * a ≤ k ∧ k < 60 * a + 60 ∨ c = 93 ∧ k = 6) m w → vI m 1 1 = n → (∀ j, j < i → vI w 94 (60 * a + j) = vI m 2 j) → wp (fX2_takeNote_23 fX2_takeNote_43 g (Zi a) (Zi i) w) (fun x w' => x = Zi n ∧ (∀ j, j < n → vI w' 94 (60 * a + j) = vI m 2 j) ∧ vI w' 95 a = n ∧ vI w' 93 6 = vI w 93 6 ∧ Fr (fun c k => c = 94 ∧ 60 * a ≤ k ∧ k < 60 * a + n ∨ c = 95 ∧ k = a) w w') := by
  intro r
  induction r with
  | zero =>
    intro i g w hi hg hF hs hj
    obtain ⟨g, rfl⟩ : ∃ g', g = g' + 1 := ⟨g - 1, by omega⟩
    have s1 : vI w 1 1 = n := by rw [hF.v 1 1 (by omega), hs]
    refine wp_e (by
      simp (disch := omega) only [fX2_takeNote_23, fX2_takeNote_43, fX8_size_d, fX8_size_0, qbI_s, qbL_s, qbV_s, qbR_s, qbR_n, qbN_s, qbN_n, qbIX_s, qbIX_n, qbVX_s, qbVX_n, cond_true, cond_false, cond_dec, jadd, jsub, jmul, jneg, li_0, li_1, li_2, li_3, li_4, li_5, li_6, li_7, li_8, li_9, li_10, li_14, li_15, li_16, li_19, li_20, li_24, li_30, li_31, li_32, li_39, li_40, li_48, li_57, li_59, li_60, li_63, li_65, li_80, li_81, li_90, li_97, li_99, li_100, li_122, li_126, li_127, li_150, li_160, li_200, li_225, li_255, li_400, li_799, li_800, li_999, li_2400, li_3239, li_3240, li_1048575, li_1431655765, li_858993459, li_252645135, eqb_j, ltb_j, leb_j, inb_j, ix_j, ix_n, nz_b, nz_0, nz_1, eqb_b, bnot, vI_ne, vI_eq, gIL, gLI, gIR, gRI, gLR, gRL, Int.reduceLT, Int.reduceLE, Int.reduceEq, Int.reduceAdd, Int.reduceSub, Int.reduceMul, Int.reduceNeg, Int.reduceToNat, Nat.reduceEqDiff, reduceIte, if_neg, if_pos, gI_ne, gIv 1, s1]
      rfl) ⟨rfl, fun j h => ?_, ?_, ?_, Fr.wI (Fr.rf w) 95 a _ (Or.inr ⟨rfl, rfl⟩)⟩
    · rw [vI_ne (by omega)]
      exact hj j (by omega)
    · rw [vI_eq (by omega), if_pos rfl]
    · rw [vI_ne (by omega)]
  | succ r ih =>
    intro i g w hi hg hF hs hj
    obtain ⟨g, rfl⟩ : ∃ g', g = g' + 1 := ⟨g - 1, by omega⟩
    have s1 : vI w 1 1 = n := by rw [hF.v 1 1 (by omega), hs]
    have h5 := hT.2.2.2.2 i (by omega)
    have hb := byte_v hT i (by omega)
    have hb2 : -128 ≤ vI m 2 i ∧ vI m 2 i < 256 := by rw [hb]; split <;> omega
    have i1 : ((a : Int) * 60 + i).toNat = 60 * a + i := by omega
    have hTw : RTape w := hT.mono fun c k hc => hF.1 c k (by omega)
    have ba : fX8_byteAt (Zi i) w = some (Zi (vI m 2 i), w) := by
      rcases byteAt_s w hTw i with h9 | h9
      · rw [h9, if_pos (by omega), hF.v 2 i (by omega)]
      · omega
    obtain ⟨x, w', g1, g2, g3, g4, g5, g6⟩ := ih (i + 1) g (sI w 94 (60 * a + i) (Zi (vI m 2 i))) (by omega) (by omega) (Fr.wI hF 94 _ _ (by omega)) hs (fun j h => by
      rw [vI_eq (by omega)]
      by_cases e : j = i
      · rw [e, if_pos rfl]
      · rw [if_neg (by omega)]
        exact hj j (by omega))
    refine ⟨x, w', ?_, g2, g3, g4, by rw [g5, vI_ne (by omega)], Fr.tr (Fr.wI (Fr.rf w) 94 _ _ (by omega)) g6⟩
    rw [← g1]
    simp (disch := omega) only [fX2_takeNote_23, fX8_size_d, fX8_size_0, qbI_s, qbL_s, qbV_s, qbR_s, qbR_n, qbN_s, qbN_n, qbIX_s, qbIX_n, qbVX_s, qbVX_n, cond_true, cond_false, cond_dec, jadd, jsub, jmul, jneg, li_0, li_1, li_2, li_3, li_4, li_5, li_6, li_7, li_8, li_9, li_10, li_14, li_15, li_16, li_19, li_20, li_24, li_30, li_31, li_32, li_39, li_40, li_48, li_57, li_59, li_60, li_63, li_65, li_80, li_81, li_90, li_97, li_99, li_100, li_122, li_126, li_127, li_150, li_160, li_200, li_225, li_255, li_400, li_799, li_800, li_999, li_2400, li_3239, li_3240, li_1048575, li_1431655765, li_858993459, li_252645135, eqb_j, ltb_j, leb_j, inb_j, ix_j, ix_n, nz_b, nz_0, nz_1, eqb_b, bnot, vI_ne, vI_eq, gIL, gLI, gIR, gRI, gLR, gRL, Int.reduceLT, Int.reduceLE, Int.reduceEq, Int.reduceAdd, Int.reduceSub, Int.reduceMul, Int.reduceNeg, Int.reduceToNat, Nat.reduceEqDiff, reduceIte, if_neg, if_pos, gI_ne, gIv 1, s1, ba, i1]
    rfl
theorem noteM1 (m : qM) (n : Nat) (hs : vI m 98 13 = n) (hn : n ≤ 60) (a : Nat) (k38 : Int32 → Int32 → qM → Option (Int32 × qM)) : ∀ (r i g : Nat), i + r = n → r < g → fX13_note_19 k38 g (Zi a) (Zi i) m = if pd (∀ j, i ≤ j → j < n → 32 ≤ vI m 110 j ∧ vI m 110 j ≤ 126) then k38 (Zi a) (Zi 0) m else some (Zi (-1), m) := by
  intro r
  induction r with
  | zero =>
    intro i g hi hg
    obtain ⟨g, rfl⟩ : ∃ g', g = g' + 1 := ⟨g - 1, by omega⟩
    rw [pd_t (fun j h1 h2 => by omega), if_pos rfl]
    simp (disch := omega) only [fX13_note_19, qbI_s, qbL_s, qbV_s, qbR_s, qbR_n, qbN_s, qbN_n, qbIX_s, qbIX_n, qbVX_s, qbVX_n, cond_true, cond_false, cond_dec, jadd, jsub, jmul, jneg, li_0, li_1, li_2, li_3, li_4, li_5, li_6, li_7, li_8, li_9, li_10, li_14, li_15, li_16, li_19, li_20, li_24, li_30, li_31, li_32, li_39, li_40, li_48, li_57, li_59, li_60, li_63, li_65, li_80, li_81, li_90, li_97, li_99, li_100, li_122, li_126, li_127, li_150, li_160, li_200, li_225, li_255, li_400, li_799, li_800, li_999, li_2400, li_3239, li_3240, li_1048575, li_1431655765, li_858993459, li_252645135, eqb_j, ltb_j, leb_j, inb_j, ix_j, ix_n, nz_b, nz_0, nz_1, eqb_b, bnot, vI_ne, vI_eq, gIL, gLI, gIR, gRI, gLR, gRL, Int.reduceLT, Int.reduceLE, Int.reduceEq, Int.reduceAdd, Int.reduceSub, Int.reduceMul, Int.reduceNeg, Int.reduceToNat, Nat.reduceEqDiff, reduceIte, if_neg, if_pos, gI_ne, gIv 98, hs]
  | succ r ih =>
    intro i g hi hg
    obtain ⟨g, rfl⟩ : ∃ g', g = g' + 1 := ⟨g - 1, by omega⟩
    have ih2 := ih (i + 1) g (by omega) (by omega)
    have k1 := vI_r m 110 i
    by_cases hv : 32 ≤ vI m 110 i ∧ vI m 110 i ≤ 126
    · have e : pd (∀ j, i ≤ j → j < n → 32 ≤ vI m 110 j ∧ vI m 110 j ≤ 126) = pd (∀ j, i + 1 ≤ j → j < n → 32 ≤ vI m 110 j ∧ vI m 110 j ≤ 126) := by
        rw [Bool.eq_iff_iff, pd_iff, pd_iff]
        exact ⟨fun h j h1 h2 => h j (by omega) h2, fun h j h1 h2 => by
          by_cases e : j = i
          · rw [e]; exact hv
          · exact h j (by omega) h2⟩
      rw [e]
      simp (disch := omega) only [fX13_note_19, qbI_s, qbL_s, qbV_s, qbR_s, qbR_n, qbN_s, qbN_n, qbIX_s, qbIX_n, qbVX_s, qbVX_n, cond_true, cond_false, cond_dec, jadd, jsub, jmul, jneg, li_0, li_1, li_2, li_3, li_4, li_5, li_6, li_7, li_8, li_9, li_10, li_14, li_15, li_16, li_19, li_20, li_24, li_30, li_31, li_32, li_39, li_40, li_48, li_57, li_59, li_60, li_63, li_65, li_80, li_81, li_90, li_97, li_99, li_100, li_122, li_126, li_127, li_150, li_160, li_200, li_225, li_255, li_400, li_799, li_800, li_999, li_2400, li_3239, li_3240, li_1048575, li_1431655765, li_858993459, li_252645135, eqb_j, ltb_j, leb_j, inb_j, ix_j, ix_n, nz_b, nz_0, nz_1, eqb_b, bnot, vI_ne, vI_eq, gIL, gLI, gIR, gRI, gLR, gRL, Int.reduceLT, Int.reduceLE, Int.reduceEq, Int.reduceAdd, Int.reduceSub, Int.reduceMul, Int.reduceNeg, Int.reduceToNat, Nat.reduceEqDiff, reduceIte, if_neg, if_pos, gI_ne, ll_0, ll_1, ll_3, ll_5, ll_9, ll_10, ll_13, ll_14, ll_19, ll_20, ll_32, ll_60, ll_126, ll_799, ll_1024, ll_1048576, ll_67108864, Zladd, Zlsub, Zlmul, Zlneg, toL, lg_lt, lg_gt, lg_le, gIv 98, hs, gIv 110, in_s]
      exact ih2
    · rw [pd_f (fun h => hv (h i (Nat.le_refl _) (by omega))), if_neg (by decide)]
      simp (disch := omega) only [fX13_note_19, qbI_s, qbL_s, qbV_s, qbR_s, qbR_n, qbN_s, qbN_n, qbIX_s, qbIX_n, qbVX_s, qbVX_n, cond_true, cond_false, cond_dec, jadd, jsub, jmul, jneg, li_0, li_1, li_2, li_3, li_4, li_5, li_6, li_7, li_8, li_9, li_10, li_14, li_15, li_16, li_19, li_20, li_24, li_30, li_31, li_32, li_39, li_40, li_48, li_57, li_59, li_60, li_63, li_65, li_80, li_81, li_90, li_97, li_99, li_100, li_122, li_126, li_127, li_150, li_160, li_200, li_225, li_255, li_400, li_799, li_800, li_999, li_2400, li_3239, li_3240, li_1048575, li_1431655765, li_858993459, li_252645135, eqb_j, ltb_j, leb_j, inb_j, ix_j, ix_n, nz_b, nz_0, nz_1, eqb_b, bnot, vI_ne, vI_eq, gIL, gLI, gIR, gRI, gLR, gRL, Int.reduceLT, Int.reduceLE, Int.reduceEq, Int.reduceAdd, Int.reduceSub, Int.reduceMul, Int.reduceNeg, Int.reduceToNat, Nat.reduceEqDiff, reduceIte, if_neg, if_pos, gI_ne, ll_0, ll_1, ll_3, ll_5, ll_9, ll_10, ll_13, ll_14, ll_19, ll_20, ll_32, ll_60, ll_126, ll_799, ll_1024, ll_1048576, ll_67108864, Zladd, Zlsub, Zlmul, Zlneg, toL, lg_lt, lg_gt, lg_le, gIv 98, hs, gIv 110, in_s]
theorem noteM2 (m : qM) (a n : Nat) (ha : a < 40) (hn : n ≤ 60) (h5 : ∀ k, k < n → -128 ≤ vI m 110 k ∧ vI m 110 k < 128) : ∀ (r i g : Nat) (w : qM), i + r = n → r < g → Fr (fun c k => c = 153 ∧ 60 * a ≤ k ∧ k < 60 * a + 60) m w → vI m 98 13 = n → (∀ j, j < i → vI w 153 (60 * a + j) = vI m 110 j) → wp (fX13_note_38 g (Zi a) (Zi i) w) (fun x w' => x = Zi n ∧ (∀ j, j < n → vI w' 153 (60 * a + j) = vI m 110 j) ∧ vI w' 151 a = n ∧ Fr (fun c k => c = 153 ∧ 60 * a ≤ k ∧ k < 60 * a + n ∨ c = 151 ∧ k = a) w w') := by
  intro r
  induction r with
  | zero =>
    intro i g w hi hg hF hs hj
    obtain ⟨g, rfl⟩ : ∃ g', g = g' + 1 := ⟨g - 1, by omega⟩
    have s1 : vI w 98 13 = n := by rw [hF.v 98 13 (by omega), hs]
    refine wp_e (by
      simp (disch := omega) only [fX13_note_38, qbI_s, qbL_s, qbV_s, qbR_s, qbR_n, qbN_s, qbN_n, qbIX_s, qbIX_n, qbVX_s, qbVX_n, cond_true, cond_false, cond_dec, jadd, jsub, jmul, jneg, li_0, li_1, li_2, li_3, li_4, li_5, li_6, li_7, li_8, li_9, li_10, li_14, li_15, li_16, li_19, li_20, li_24, li_30, li_31, li_32, li_39, li_40, li_48, li_57, li_59, li_60, li_63, li_65, li_80, li_81, li_90, li_97, li_99, li_100, li_122, li_126, li_127, li_150, li_160, li_200, li_225, li_255, li_400, li_799, li_800, li_999, li_2400, li_3239, li_3240, li_1048575, li_1431655765, li_858993459, li_252645135, eqb_j, ltb_j, leb_j, inb_j, ix_j, ix_n, nz_b, nz_0, nz_1, eqb_b, bnot, vI_ne, vI_eq, gIL, gLI, gIR, gRI, gLR, gRL, Int.reduceLT, Int.reduceLE, Int.reduceEq, Int.reduceAdd, Int.reduceSub, Int.reduceMul, Int.reduceNeg, Int.reduceToNat, Nat.reduceEqDiff, reduceIte, if_neg, if_pos, gI_ne, gIv 98, s1]
      rfl) ⟨rfl, fun j h => ?_, ?_, Fr.wI (Fr.rf w) 151 a _ (Or.inr ⟨rfl, rfl⟩)⟩
    · rw [vI_ne (by omega)]
      exact hj j (by omega)
    · rw [vI_eq (by omega), if_pos rfl]
  | succ r ih =>
    intro i g w hi hg hF hs hj
    obtain ⟨g, rfl⟩ : ∃ g', g = g' + 1 := ⟨g - 1, by omega⟩
    have s1 : vI w 98 13 = n := by rw [hF.v 98 13 (by omega), hs]
    have hb2 := h5 i (by omega)
    have i1 : (60 * (a : Int) + i).toNat = 60 * a + i := by omega
    have w110 : vI w 110 i = vI m 110 i := hF.v 110 i (by omega)
    have hnb : nb (Zi (vI m 110 i)) = Zi (vI m 110 i) := by
      rw [nb_e]
      exact fb_byte (by rw [jt (by omega)]; omega) (by rw [jt (by omega)]; omega)
    obtain ⟨x, w', g1, g2, g3, g4, g6⟩ := ih (i + 1) g (sI w 153 (60 * a + i) (Zi (vI m 110 i))) (by omega) (by omega) (Fr.wI hF 153 _ _ (by omega)) hs (fun j h => by
      rw [vI_eq (by omega)]
      by_cases e : j = i
      · rw [e, if_pos rfl]
      · rw [if_neg (by omega)]
        exact hj j (by omega))
    refine ⟨x, w', ?_, g2, g3, g4, Fr.tr (Fr.wI (Fr.rf w) 153 _ _ (by omega)) g6⟩
    rw [← g1]
    simp (disch := omega) only [fX13_note_38, qbI_s, qbL_s, qbV_s, qbR_s, qbR_n, qbN_s, qbN_n, qbIX_s, qbIX_n, qbVX_s, qbVX_n, cond_true, cond_false, cond_dec, jadd, jsub, jmul, jneg, li_0, li_1, li_2, li_3, li_4, li_5, li_6, li_7, li_8, li_9, li_10, li_14, li_15, li_16, li_19, li_20, li_24, li_30, li_31, li_32, li_39, li_40, li_48, li_57, li_59, li_60, li_63, li_65, li_80, li_81, li_90, li_97, li_99, li_100, li_122, li_126, li_127, li_150, li_160, li_200, li_225, li_255, li_400, li_799, li_800, li_999, li_2400, li_3239, li_3240, li_1048575, li_1431655765, li_858993459, li_252645135, eqb_j, ltb_j, leb_j, inb_j, ix_j, ix_n, nz_b, nz_0, nz_1, eqb_b, bnot, vI_ne, vI_eq, gIL, gLI, gIR, gRI, gLR, gRL, Int.reduceLT, Int.reduceLE, Int.reduceEq, Int.reduceAdd, Int.reduceSub, Int.reduceMul, Int.reduceNeg, Int.reduceToNat, Nat.reduceEqDiff, reduceIte, if_neg, if_pos, gI_ne, gIv 98, s1, gIv 110, w110, i1, hnb]
    rfl
noncomputable def openM (m : qM) : qM := sI (sI (sI m 98 13 (gI m 98 12)) 98 12 (Zi 0)) 98 15 (Zi 0)
theorem open_M (m : qM) : fX13_open m = some ((), openM m) := by
  rw [fX13_open_d]
  simp (disch := omega) only [fX13_open_0, gI_sI, qbI_s, qbL_s, qbV_s, qbR_s, qbR_n, qbN_s, qbN_n, qbIX_s, qbIX_n, qbVX_s, qbVX_n, cond_true, cond_false, cond_dec, jadd, jsub, jmul, jneg, li_0, li_1, li_2, li_3, li_4, li_5, li_6, li_7, li_8, li_9, li_10, li_14, li_15, li_16, li_19, li_20, li_24, li_30, li_31, li_32, li_39, li_40, li_48, li_57, li_59, li_60, li_63, li_65, li_80, li_81, li_90, li_97, li_99, li_100, li_122, li_126, li_127, li_150, li_160, li_200, li_225, li_255, li_400, li_799, li_800, li_999, li_2400, li_3239, li_3240, li_1048575, li_1431655765, li_858993459, li_252645135, eqb_j, ltb_j, leb_j, inb_j, ix_j, ix_n, nz_b, nz_0, nz_1, eqb_b, bnot, vI_ne, vI_eq, gIL, gLI, gIR, gRI, gLR, gRL, Int.reduceLT, Int.reduceLE, Int.reduceEq, Int.reduceAdd, Int.reduceSub, Int.reduceMul, Int.reduceNeg, Int.reduceToNat, Nat.reduceEqDiff, reduceIte, if_neg, if_pos, gI_ne]
  rfl
theorem op_note (m : qM) (hR : R0 m) (a : Int) (ha : -2147483648 ≤ a ∧ a < 2147483648) : QOp m (fX11_note (Zi a)) (fX13_note (Zi a)) := by
  have hR' := hR
  obtain ⟨⟨hT, hRd, hRu, hFo, hHa⟩, ⟨hPt, hPf, hAp, hWk⟩, ⟨hAs, hPa, hCl, hDi, hBi, hCn⟩, ⟨hTe, hBe, hNo, hPo⟩⟩ := hR'
  have n32 : 0 ≤ vI m 98 32 ∧ vI m 98 32 ≤ 40 := ⟨hAs.2.1, hAs.2.2.1⟩
  obtain ⟨t1, t2, t3, t4, t5⟩ := hT
  have hT : RTape m := ⟨t1, t2, t3, t4, t5⟩
  obtain ⟨n, hn⟩ : ∃ n : Nat, vI m 1 1 = n := ⟨(vI m 1 1).toNat, by omega⟩
  have hn12 : vI m 98 12 = n := by rw [t3, hn]
  -- the class's part but the tape's cut, and what the reference makes of it
  have fin : ∀ (x : Int) (m1 m2 : qM), -2147483648 ≤ x ∧ x < 2147483648 → fX11_note (Zi a) m = some (Zi x, sI m1 1 1 (Zi 0)) → (∀ c k, ¬ (93 ≤ c ∧ c ≤ 95) → gI m1 c k = gI m c k) → gR m1 = gR m → fX13_note (Zi a) (sI m1 1 1 (Zi 0)) = some (Zi x, m2) → (∀ c k, ¬ (c = 98 ∧ 12 ≤ k ∧ k ≤ 15 ∨ c = 151 ∨ c = 153) → gI m2 c k = gI (sI m1 1 1 (Zi 0)) c k) → gR m2 = gR m1 → vI m2 98 12 = 0 → RNote m2 → QOp m (fX11_note (Zi a)) (fX13_note (Zi a)) := by
    intro x m1 m2 hx e1 e2 e3 e4 e5 e6 e7 e8
    have q : ∀ c k, ¬ (c = 1 ∧ k = 1 ∨ 93 ≤ c ∧ c ≤ 95 ∨ c = 98 ∧ 12 ≤ k ∧ k ≤ 15 ∨ c = 151 ∨ c = 153) → gI m2 c k = gI m c k := fun c k hc => by
      rw [e5 c k (by omega), gI_sI, if_neg (by omega)]
      exact e2 c k (by omega)
    have hT9 : RTape m2 := by
      have v11 : vI m2 1 1 = 0 := by rw [vI_of (e5 1 1 (by omega)), vI_eq (by omega), if_pos rfl]
      refine ⟨by omega, by omega, by omega, fun k hk => ?_, fun k hk => ?_⟩
      · rw [q 2 k (by omega), q 110 k (by omega)]
        exact t4 k hk
      · rw [vI_of (q 110 k (by omega))]
        exact t5 k hk
    refine QOp.ok e1 e4 rfl (⟨⟨(hT9), hRd.mono (fun c k hc => q c k (by omega)), hRu.mono (fun c k hc => q c k (by omega)), hFo.mono (fun c k hc => q c k (by omega)), hHa.mono (fun c k hc => q c k (by omega))⟩, ⟨hPt.mono (fun c k hc => q c k (by omega)), hPf.mono (fun c k hc => q c k (by omega)), hAp.mono (fun c k hc => q c k (by omega)), hWk.mono (fun c k hc => q c k (by omega))⟩, ⟨hAs.mono (fun c k hc => q c k (by omega)), hPa.mono (fun c k hc => q c k (by omega)), hCl.mono (fun c k hc => q c k (by omega)), hDi.mono (fun c k hc => q c k (by omega)), hBi.mono (fun c k hc => q c k (by omega)), hCn.mono (fun c k hc => q c k (by omega))⟩, ⟨hTe.mono (fun c k hc => q c k (by omega)), hBe.mono (fun c k hc => q c k (by omega)), (e8), hPo.mono (fun c k hc => q c k (by omega)) (by rw [e6, e3])⟩⟩) (EK.of fun c k hc => q c k (by unfold EvD at hc; omega))
  have cut0 : ∀ w : qM, fX8_cut (Zi 0) w = some ((), sI w 1 1 (Zi 0)) := fun w => by
    have hv := vI_r w 1 1
    rw [cut_s 0 w (by omega), show max 0 (min 0 (vI w 1 1)) = 0 by omega]
  have mn : ∀ (m1 : qM), (∀ c k, ¬ (93 ≤ c ∧ c ≤ 95) → gI m1 c k = gI m c k) → vI (openM (sI m1 1 1 (Zi 0))) 98 32 = vI m 98 32 ∧ vI (openM (sI m1 1 1 (Zi 0))) 98 13 = n ∧ vI (openM (sI m1 1 1 (Zi 0))) 98 12 = 0 ∧ (∀ c k, ¬ (c = 98 ∧ 12 ≤ k ∧ k ≤ 15) → gI (openM (sI m1 1 1 (Zi 0))) c k = gI (sI m1 1 1 (Zi 0)) c k) ∧ gR (openM (sI m1 1 1 (Zi 0))) = gR m1 := fun m1 e2 => by
    have g12 : gI (sI m1 1 1 (Zi 0)) 98 12 = Zi n := by rw [gI_ne (by omega), e2 98 12 (by omega), gIv 98, hn12]
    unfold openM
    rw [g12]
    refine ⟨?_, ?_, ?_, fun c k hc => ?_, ?_⟩
    · simp (disch := omega) only [qbI_s, qbL_s, qbV_s, qbR_s, qbR_n, qbN_s, qbN_n, qbIX_s, qbIX_n, qbVX_s, qbVX_n, cond_true, cond_false, cond_dec, jadd, jsub, jmul, jneg, li_0, li_1, li_2, li_3, li_4, li_5, li_6, li_7, li_8, li_9, li_10, li_14, li_15, li_16, li_19, li_20, li_24, li_30, li_31, li_32, li_39, li_40, li_48, li_57, li_59, li_60, li_63, li_65, li_80, li_81, li_90, li_97, li_99, li_100, li_122, li_126, li_127, li_150, li_160, li_200, li_225, li_255, li_400, li_799, li_800, li_999, li_2400, li_3239, li_3240, li_1048575, li_1431655765, li_858993459, li_252645135, eqb_j, ltb_j, leb_j, inb_j, ix_j, ix_n, nz_b, nz_0, nz_1, eqb_b, bnot, vI_ne, vI_eq, gIL, gLI, gIR, gRI, gLR, gRL, Int.reduceLT, Int.reduceLE, Int.reduceEq, Int.reduceAdd, Int.reduceSub, Int.reduceMul, Int.reduceNeg, Int.reduceToNat, Nat.reduceEqDiff, reduceIte, if_neg, if_pos, gI_ne]
      exact vI_of (e2 98 32 (by omega))
    · simp (disch := omega) only [qbI_s, qbL_s, qbV_s, qbR_s, qbR_n, qbN_s, qbN_n, qbIX_s, qbIX_n, qbVX_s, qbVX_n, cond_true, cond_false, cond_dec, jadd, jsub, jmul, jneg, li_0, li_1, li_2, li_3, li_4, li_5, li_6, li_7, li_8, li_9, li_10, li_14, li_15, li_16, li_19, li_20, li_24, li_30, li_31, li_32, li_39, li_40, li_48, li_57, li_59, li_60, li_63, li_65, li_80, li_81, li_90, li_97, li_99, li_100, li_122, li_126, li_127, li_150, li_160, li_200, li_225, li_255, li_400, li_799, li_800, li_999, li_2400, li_3239, li_3240, li_1048575, li_1431655765, li_858993459, li_252645135, eqb_j, ltb_j, leb_j, inb_j, ix_j, ix_n, nz_b, nz_0, nz_1, eqb_b, bnot, vI_ne, vI_eq, gIL, gLI, gIR, gRI, gLR, gRL, Int.reduceLT, Int.reduceLE, Int.reduceEq, Int.reduceAdd, Int.reduceSub, Int.reduceMul, Int.reduceNeg, Int.reduceToNat, Nat.reduceEqDiff, reduceIte, if_neg, if_pos, gI_ne]
    · simp (disch := omega) only [qbI_s, qbL_s, qbV_s, qbR_s, qbR_n, qbN_s, qbN_n, qbIX_s, qbIX_n, qbVX_s, qbVX_n, cond_true, cond_false, cond_dec, jadd, jsub, jmul, jneg, li_0, li_1, li_2, li_3, li_4, li_5, li_6, li_7, li_8, li_9, li_10, li_14, li_15, li_16, li_19, li_20, li_24, li_30, li_31, li_32, li_39, li_40, li_48, li_57, li_59, li_60, li_63, li_65, li_80, li_81, li_90, li_97, li_99, li_100, li_122, li_126, li_127, li_150, li_160, li_200, li_225, li_255, li_400, li_799, li_800, li_999, li_2400, li_3239, li_3240, li_1048575, li_1431655765, li_858993459, li_252645135, eqb_j, ltb_j, leb_j, inb_j, ix_j, ix_n, nz_b, nz_0, nz_1, eqb_b, bnot, vI_ne, vI_eq, gIL, gLI, gIR, gRI, gLR, gRL, Int.reduceLT, Int.reduceLE, Int.reduceEq, Int.reduceAdd, Int.reduceSub, Int.reduceMul, Int.reduceNeg, Int.reduceToNat, Nat.reduceEqDiff, reduceIte, if_neg, if_pos, gI_ne]
    · rw [gI_sI, gI_sI, gI_sI, if_neg (by omega), if_neg (by omega), if_neg (by omega)]
    · simp only [gR_sI]
  by_cases h1 : 0 ≤ a ∧ a < vI m 98 32
  · obtain ⟨b, rfl⟩ : ∃ b : Nat, a = b := ⟨a.toNat, by omega⟩
    cases hw : noteB m n
    · have e1 : fX11_note (Zi b) m = some (Zi (-1), sI m 1 1 (Zi 0)) := by
        rw [fX11_note_d]
        simp (disch := omega) only [fX11_note_0, fX11_note_13, fX2_takeNote_d, fX2_takeNote_0, fX2_takeNote_8, qbI_s, qbL_s, qbV_s, qbR_s, qbR_n, qbN_s, qbN_n, qbIX_s, qbIX_n, qbVX_s, qbVX_n, cond_true, cond_false, cond_dec, jadd, jsub, jmul, jneg, li_0, li_1, li_2, li_3, li_4, li_5, li_6, li_7, li_8, li_9, li_10, li_14, li_15, li_16, li_19, li_20, li_24, li_30, li_31, li_32, li_39, li_40, li_48, li_57, li_59, li_60, li_63, li_65, li_80, li_81, li_90, li_97, li_99, li_100, li_122, li_126, li_127, li_150, li_160, li_200, li_225, li_255, li_400, li_799, li_800, li_999, li_2400, li_3239, li_3240, li_1048575, li_1431655765, li_858993459, li_252645135, eqb_j, ltb_j, leb_j, inb_j, ix_j, ix_n, nz_b, nz_0, nz_1, eqb_b, bnot, vI_ne, vI_eq, gIL, gLI, gIR, gRI, gLR, gRL, Int.reduceLT, Int.reduceLE, Int.reduceEq, Int.reduceAdd, Int.reduceSub, Int.reduceMul, Int.reduceNeg, Int.reduceToNat, Nat.reduceEqDiff, reduceIte, if_neg, if_pos, gI_ne, isAskC m hAs, isNote_s m hT n hn, hw, show bI false = 0 from rfl, cut0]
      obtain ⟨o1, o2, o3, o4, o5⟩ := mn m (fun _ _ _ => rfl)
      have v110 : ∀ k, vI (openM (sI m 1 1 (Zi 0))) 110 k = vI m 110 k := fun k => by rw [vI_of (o4 110 k (by omega)), vI_ne (by omega)]
      have e4 : fX13_note (Zi b) (sI m 1 1 (Zi 0)) = some (Zi (-1), openM (sI m 1 1 (Zi 0))) := by
        rw [fX13_note_d]
        by_cases h60 : 1 ≤ n ∧ n ≤ 60
        · have hz := noteM1 (openM (sI m 1 1 (Zi 0))) n o2 h60.2 b (fX13_note_38 FU) n 0 FU (by omega) (by rw [FU_d]; omega)
          have hp : pd (∀ j, 0 ≤ j → j < n → 32 ≤ vI (openM (sI m 1 1 (Zi 0))) 110 j ∧ vI (openM (sI m 1 1 (Zi 0))) 110 j ≤ 126) = false := pd_f fun h => by
            unfold noteB at hw
            rw [decide_eq_true h60, Bool.true_and, pd_t (fun i hi => by have := h i (Nat.zero_le _) hi; rw [v110] at this; exact this)] at hw
            cases hw
          rw [hp, if_neg (by decide)] at hz
          simp (disch := omega) only [fX13_note_0, open_M, qbI_s, qbL_s, qbV_s, qbR_s, qbR_n, qbN_s, qbN_n, qbIX_s, qbIX_n, qbVX_s, qbVX_n, cond_true, cond_false, cond_dec, jadd, jsub, jmul, jneg, li_0, li_1, li_2, li_3, li_4, li_5, li_6, li_7, li_8, li_9, li_10, li_14, li_15, li_16, li_19, li_20, li_24, li_30, li_31, li_32, li_39, li_40, li_48, li_57, li_59, li_60, li_63, li_65, li_80, li_81, li_90, li_97, li_99, li_100, li_122, li_126, li_127, li_150, li_160, li_200, li_225, li_255, li_400, li_799, li_800, li_999, li_2400, li_3239, li_3240, li_1048575, li_1431655765, li_858993459, li_252645135, eqb_j, ltb_j, leb_j, inb_j, ix_j, ix_n, nz_b, nz_0, nz_1, eqb_b, bnot, vI_ne, vI_eq, gIL, gLI, gIR, gRI, gLR, gRL, Int.reduceLT, Int.reduceLE, Int.reduceEq, Int.reduceAdd, Int.reduceSub, Int.reduceMul, Int.reduceNeg, Int.reduceToNat, Nat.reduceEqDiff, reduceIte, if_neg, if_pos, gI_ne, ll_0, ll_1, ll_3, ll_5, ll_9, ll_10, ll_13, ll_14, ll_19, ll_20, ll_32, ll_60, ll_126, ll_799, ll_1024, ll_1048576, ll_67108864, Zladd, Zlsub, Zlmul, Zlneg, toL, lg_lt, lg_gt, lg_le, isAskM (openM (sI m 1 1 (Zi 0))) (by rw [o1]; exact n32), o1, gIv 98, o2, in_s]
          exact hz
        · simp (disch := omega) only [fX13_note_0, open_M, qbI_s, qbL_s, qbV_s, qbR_s, qbR_n, qbN_s, qbN_n, qbIX_s, qbIX_n, qbVX_s, qbVX_n, cond_true, cond_false, cond_dec, jadd, jsub, jmul, jneg, li_0, li_1, li_2, li_3, li_4, li_5, li_6, li_7, li_8, li_9, li_10, li_14, li_15, li_16, li_19, li_20, li_24, li_30, li_31, li_32, li_39, li_40, li_48, li_57, li_59, li_60, li_63, li_65, li_80, li_81, li_90, li_97, li_99, li_100, li_122, li_126, li_127, li_150, li_160, li_200, li_225, li_255, li_400, li_799, li_800, li_999, li_2400, li_3239, li_3240, li_1048575, li_1431655765, li_858993459, li_252645135, eqb_j, ltb_j, leb_j, inb_j, ix_j, ix_n, nz_b, nz_0, nz_1, eqb_b, bnot, vI_ne, vI_eq, gIL, gLI, gIR, gRI, gLR, gRL, Int.reduceLT, Int.reduceLE, Int.reduceEq, Int.reduceAdd, Int.reduceSub, Int.reduceMul, Int.reduceNeg, Int.reduceToNat, Nat.reduceEqDiff, reduceIte, if_neg, if_pos, gI_ne, ll_0, ll_1, ll_3, ll_5, ll_9, ll_10, ll_13, ll_14, ll_19, ll_20, ll_32, ll_60, ll_126, ll_799, ll_1024, ll_1048576, ll_67108864, Zladd, Zlsub, Zlmul, Zlneg, toL, lg_lt, lg_gt, lg_le, isAskM (openM (sI m 1 1 (Zi 0))) (by rw [o1]; exact n32), o1, gIv 98, o2, in_s]
      refine fin (-1) m (openM (sI m 1 1 (Zi 0))) (by omega) e1 (fun _ _ _ => rfl) rfl e4 (fun c k hc => o4 c k (by omega)) o5 o3 (hNo.mono fun c k hc => ?_)
      rw [o4 c k (by omega), gI_ne (by omega)]
    · have hw' := hw
      unfold noteB at hw'
      rw [Bool.and_eq_true, decide_eq_true_eq, pd_iff] at hw'
      obtain ⟨h60, hb⟩ := hw'
      obtain ⟨p1, p2, p3, p4, p5, p6, p7, p8⟩ := hNo
      have hl := p1 b (by omega)
      -- how many notes there are, told ahead
      obtain ⟨c0, hc0⟩ : ∃ c0 : qM, c0 = (if vI m 151 b = 0 then sI m 93 6 (Zi (vI m 93 6 + 1)) else m) := ⟨_, rfl⟩
      have p8r : 0 ≤ vI m 93 6 ∧ vI m 93 6 ≤ 40 := by
        rw [p8]
        have := fb_ct_le (fun a => decide (0 < vI m 151 a)) 40
        omega
      have c0F : Fr (fun c k => c = 94 ∧ 60 * b ≤ k ∧ k < 60 * b + 60 ∨ c = 93 ∧ k = 6) m c0 := by
        rw [hc0]
        split
        · exact Fr.wI (Fr.rf m) 93 6 _ (Or.inr ⟨rfl, rfl⟩)
        · exact Fr.rf m
      have c06 : vI c0 93 6 = vI m 93 6 + (if vI m 151 b = 0 then 1 else 0) := by
        rw [hc0]
        split
        · rw [vI_eq (by omega), if_pos rfl]
        · omega
      obtain ⟨x, m1, g1, rfl, s1, s2, s3, f1⟩ := noteC m hT b n (by omega) h60.2 n 0 FU c0 (by omega) (by rw [FU_d]; omega) c0F hn (fun j h => by omega)
      have q1 : ∀ c k, ¬ (c = 94 ∧ 60 * b ≤ k ∧ k < 60 * b + n ∨ c = 95 ∧ k = b ∨ c = 93 ∧ k = 6) → gI m1 c k = gI m c k := fun c k hc => by
        rw [f1.1 c k (by omega), hc0]
        split
        · rw [gI_sI, if_neg (by omega)]
        · rfl
      have gR1 : gR m1 = gR m := by
        rw [f1.2.2, hc0]
        split
        · rw [gR_sI]
        · rfl
      have e1 : fX11_note (Zi b) m = some (Zi n, sI m1 1 1 (Zi 0)) := by
        rw [fX11_note_d]
        by_cases hz : vI m 151 b = 0
        · rw [if_pos hz] at hc0
          rw [hc0] at g1
          simp (disch := omega) only [fX11_note_0, fX11_note_13, fX2_takeNote_d, fX2_takeNote_0, fX2_takeNote_8, fX2_takeNote_21, qbI_s, qbL_s, qbV_s, qbR_s, qbR_n, qbN_s, qbN_n, qbIX_s, qbIX_n, qbVX_s, qbVX_n, cond_true, cond_false, cond_dec, jadd, jsub, jmul, jneg, li_0, li_1, li_2, li_3, li_4, li_5, li_6, li_7, li_8, li_9, li_10, li_14, li_15, li_16, li_19, li_20, li_24, li_30, li_31, li_32, li_39, li_40, li_48, li_57, li_59, li_60, li_63, li_65, li_80, li_81, li_90, li_97, li_99, li_100, li_122, li_126, li_127, li_150, li_160, li_200, li_225, li_255, li_400, li_799, li_800, li_999, li_2400, li_3239, li_3240, li_1048575, li_1431655765, li_858993459, li_252645135, eqb_j, ltb_j, leb_j, inb_j, ix_j, ix_n, nz_b, nz_0, nz_1, eqb_b, bnot, vI_ne, vI_eq, gIL, gLI, gIR, gRI, gLR, gRL, Int.reduceLT, Int.reduceLE, Int.reduceEq, Int.reduceAdd, Int.reduceSub, Int.reduceMul, Int.reduceNeg, Int.reduceToNat, Nat.reduceEqDiff, reduceIte, if_neg, if_pos, gI_ne, isAskC m hAs, isNote_s m hT n hn, hw, show bI true = 1 from rfl, within_s, gIv 95, hl.1, hz, gIv 93]
          rw [show (fX2_takeNote_23 fX2_takeNote_43 FU (Zi b) (Zi 0) (sI m 93 6 (Zi (vI m 93 6 + 1)))) = _ from g1, qbI_s, cut0, qbV_s]
        · rw [if_neg hz] at hc0
          rw [hc0] at g1
          simp (disch := omega) only [fX11_note_0, fX11_note_13, fX2_takeNote_d, fX2_takeNote_0, fX2_takeNote_8, fX2_takeNote_21, qbI_s, qbL_s, qbV_s, qbR_s, qbR_n, qbN_s, qbN_n, qbIX_s, qbIX_n, qbVX_s, qbVX_n, cond_true, cond_false, cond_dec, jadd, jsub, jmul, jneg, li_0, li_1, li_2, li_3, li_4, li_5, li_6, li_7, li_8, li_9, li_10, li_14, li_15, li_16, li_19, li_20, li_24, li_30, li_31, li_32, li_39, li_40, li_48, li_57, li_59, li_60, li_63, li_65, li_80, li_81, li_90, li_97, li_99, li_100, li_122, li_126, li_127, li_150, li_160, li_200, li_225, li_255, li_400, li_799, li_800, li_999, li_2400, li_3239, li_3240, li_1048575, li_1431655765, li_858993459, li_252645135, eqb_j, ltb_j, leb_j, inb_j, ix_j, ix_n, nz_b, nz_0, nz_1, eqb_b, bnot, vI_ne, vI_eq, gIL, gLI, gIR, gRI, gLR, gRL, Int.reduceLT, Int.reduceLE, Int.reduceEq, Int.reduceAdd, Int.reduceSub, Int.reduceMul, Int.reduceNeg, Int.reduceToNat, Nat.reduceEqDiff, reduceIte, if_neg, if_pos, gI_ne, isAskC m hAs, isNote_s m hT n hn, hw, show bI true = 1 from rfl, within_s, gIv 95, hl.1]
          rw [show (fX2_takeNote_23 fX2_takeNote_43 FU (Zi b) (Zi 0) m) = _ from g1, qbI_s, cut0, qbV_s]
      obtain ⟨o1, o2, o3, o4, o5⟩ := mn m1 (fun c k hc => q1 c k (by omega))
      have v110 : ∀ k, vI (openM (sI m1 1 1 (Zi 0))) 110 k = vI m 110 k := fun k => by rw [vI_of (o4 110 k (by omega)), vI_ne (by omega), vI_of (q1 110 k (by omega))]
      obtain ⟨y, m2, g2, hy, s4, s5, f2⟩ := noteM2 (openM (sI m1 1 1 (Zi 0))) b n (by omega) h60.2 (fun k hk => by rw [v110]; exact t5 k (by omega)) n 0 FU (openM (sI m1 1 1 (Zi 0))) (by omega) (by rw [FU_d]; omega) (Fr.rf _) o2 (fun j h => by omega)
      subst hy
      have e4 : fX13_note (Zi b) (sI m1 1 1 (Zi 0)) = some (Zi n, m2) := by
        rw [fX13_note_d]
        have hz := noteM1 (openM (sI m1 1 1 (Zi 0))) n o2 h60.2 b (fX13_note_38 FU) n 0 FU (by omega) (by rw [FU_d]; omega)
        rw [pd_t (fun j _ hj => by rw [v110]; exact hb j hj), if_pos rfl] at hz
        simp (disch := omega) only [fX13_note_0, open_M, qbI_s, qbL_s, qbV_s, qbR_s, qbR_n, qbN_s, qbN_n, qbIX_s, qbIX_n, qbVX_s, qbVX_n, cond_true, cond_false, cond_dec, jadd, jsub, jmul, jneg, li_0, li_1, li_2, li_3, li_4, li_5, li_6, li_7, li_8, li_9, li_10, li_14, li_15, li_16, li_19, li_20, li_24, li_30, li_31, li_32, li_39, li_40, li_48, li_57, li_59, li_60, li_63, li_65, li_80, li_81, li_90, li_97, li_99, li_100, li_122, li_126, li_127, li_150, li_160, li_200, li_225, li_255, li_400, li_799, li_800, li_999, li_2400, li_3239, li_3240, li_1048575, li_1431655765, li_858993459, li_252645135, eqb_j, ltb_j, leb_j, inb_j, ix_j, ix_n, nz_b, nz_0, nz_1, eqb_b, bnot, vI_ne, vI_eq, gIL, gLI, gIR, gRI, gLR, gRL, Int.reduceLT, Int.reduceLE, Int.reduceEq, Int.reduceAdd, Int.reduceSub, Int.reduceMul, Int.reduceNeg, Int.reduceToNat, Nat.reduceEqDiff, reduceIte, if_neg, if_pos, gI_ne, ll_0, ll_1, ll_3, ll_5, ll_9, ll_10, ll_13, ll_14, ll_19, ll_20, ll_32, ll_60, ll_126, ll_799, ll_1024, ll_1048576, ll_67108864, Zladd, Zlsub, Zlmul, Zlneg, toL, lg_lt, lg_gt, lg_le, isAskM (openM (sI m1 1 1 (Zi 0))) (by rw [o1]; exact n32), o1, gIv 98, o2, in_s]
        exact hz.trans g2
      have q2 : ∀ c k, ¬ (c = 98 ∧ 12 ≤ k ∧ k ≤ 15 ∨ c = 153 ∧ 60 * b ≤ k ∧ k < 60 * b + n ∨ c = 151 ∧ k = b) → gI m2 c k = gI (sI m1 1 1 (Zi 0)) c k := fun c k hc => by rw [f2.1 c k (by omega), o4 c k (by omega)]
      have q3 : ∀ c k, ¬ (c = 98 ∧ 12 ≤ k ∧ k ≤ 15 ∨ c = 153 ∧ 60 * b ≤ k ∧ k < 60 * b + n ∨ c = 151 ∧ k = b ∨ c = 1 ∧ k = 1 ∨ c = 94 ∧ 60 * b ≤ k ∧ k < 60 * b + n ∨ c = 95 ∧ k = b ∨ c = 93 ∧ k = 6) → gI m2 c k = gI m c k := fun c k hc => by
        rw [q2 c k (by omega), gI_sI, if_neg (by omega), q1 c k (by omega)]
      have v3 : ∀ c k, ¬ (c = 98 ∧ 12 ≤ k ∧ k ≤ 15 ∨ c = 153 ∧ 60 * b ≤ k ∧ k < 60 * b + n ∨ c = 151 ∧ k = b ∨ c = 1 ∧ k = 1 ∨ c = 94 ∧ 60 * b ≤ k ∧ k < 60 * b + n ∨ c = 95 ∧ k = b ∨ c = 93 ∧ k = 6) → vI m2 c k = vI m c k := fun c k hc => vI_of (q3 c k hc)
      have c94 : ∀ k, vI m2 94 k = vI m1 94 k := fun k => by rw [vI_of (q2 94 k (by omega)), vI_ne (by omega)]
      have c95 : vI m2 95 b = n := by rw [vI_of (q2 95 b (by omega)), vI_ne (by omega), s2]
      have c936 : vI m2 93 6 = vI m 93 6 + (if vI m 151 b = 0 then 1 else 0) := by rw [vI_of (q2 93 6 (by omega)), vI_ne (by omega), s3, c06]
      refine fin n m1 m2 (by omega) e1 (fun c k hc => q1 c k (by omega)) gR1 e4 (fun c k hc => q2 c k (by omega)) (by rw [f2.2.2, o5]) (by rw [f2.v 98 12 (by omega), o3]) ⟨fun k hk => ?_, fun k h1' h2' => ?_, fun k hk => ?_, ?_, ?_, ?_, ?_, ?_⟩
      · by_cases e : k = b
        · rw [e, c95, s5]
          omega
        · rw [v3 95 k (by omega), v3 151 k (by omega)]
          exact p1 k hk
      · rw [v3 98 32 (by omega)] at h1'
        rw [v3 151 k (by omega)]
        exact p2 k h1' h2'
      · by_cases e : 60 * b ≤ k ∧ k < 60 * b + n
        · obtain ⟨j, rfl⟩ : ∃ j, k = 60 * b + j := ⟨k - 60 * b, by omega⟩
          have hbj := hb j (by omega)
          have hbv := byte_v hT j (by omega)
          rw [if_neg (by omega)] at hbv
          rw [c94, s1 j (by omega), s4 j (by omega), v110, hbv]
          omega
        · rw [v3 94 k (by omega), v3 153 k (by omega)]
          exact p3 k hk
      · intro k t hk ht
        rw [q3 96 k (by omega), v3 154 _ (by omega)]
        exact p4 k t hk ht
      · intro k hk
        rw [v3 154 k (by omega)]
        exact p5 k hk
      · rw [v3 93 5 (by omega), v3 98 75 (by omega)]
        exact p6
      · intro i hi
        rw [q3 97 i (by omega), q3 152 i (by omega)]
        exact p7 i hi
      · rw [c936, p8]
        have e : (fun a => decide (0 < vI m2 151 a)) = (fun a => if a = b then true else decide (0 < vI m 151 a)) := funext fun k => by
          by_cases e : k = b
          · rw [if_pos e, e, s5]
            exact decide_eq_true (by omega)
          · rw [if_neg e, v3 151 k (by omega)]
        have h9 := fb_ct_upd (fun a => decide (0 < vI m 151 a)) true (show b < 40 by omega)
        rw [e]
        simp only [decide_eq_true_eq, if_true] at h9
        by_cases hz : vI m 151 b = 0
        · rw [if_neg (by omega)] at h9
          rw [if_pos hz]
          omega
        · rw [if_pos (by omega)] at h9
          rw [if_neg hz]
          omega
  · have e1 : fX11_note (Zi a) m = some (Zi (-2), sI m 1 1 (Zi 0)) := by
      rw [fX11_note_d]
      simp (disch := omega) only [fX11_note_0, fX11_note_13, qbI_s, qbL_s, qbV_s, qbR_s, qbR_n, qbN_s, qbN_n, qbIX_s, qbIX_n, qbVX_s, qbVX_n, cond_true, cond_false, cond_dec, jadd, jsub, jmul, jneg, li_0, li_1, li_2, li_3, li_4, li_5, li_6, li_7, li_8, li_9, li_10, li_14, li_15, li_16, li_19, li_20, li_24, li_30, li_31, li_32, li_39, li_40, li_48, li_57, li_59, li_60, li_63, li_65, li_80, li_81, li_90, li_97, li_99, li_100, li_122, li_126, li_127, li_150, li_160, li_200, li_225, li_255, li_400, li_799, li_800, li_999, li_2400, li_3239, li_3240, li_1048575, li_1431655765, li_858993459, li_252645135, eqb_j, ltb_j, leb_j, inb_j, ix_j, ix_n, nz_b, nz_0, nz_1, eqb_b, bnot, vI_ne, vI_eq, gIL, gLI, gIR, gRI, gLR, gRL, Int.reduceLT, Int.reduceLE, Int.reduceEq, Int.reduceAdd, Int.reduceSub, Int.reduceMul, Int.reduceNeg, Int.reduceToNat, Nat.reduceEqDiff, reduceIte, if_neg, if_pos, gI_ne, isAskC m hAs, cut0]
    obtain ⟨o1, o2, o3, o4, o5⟩ := mn m (fun _ _ _ => rfl)
    have e4 : fX13_note (Zi a) (sI m 1 1 (Zi 0)) = some (Zi (-2), openM (sI m 1 1 (Zi 0))) := by
      rw [fX13_note_d]
      simp (disch := omega) only [fX13_note_0, open_M, qbI_s, qbL_s, qbV_s, qbR_s, qbR_n, qbN_s, qbN_n, qbIX_s, qbIX_n, qbVX_s, qbVX_n, cond_true, cond_false, cond_dec, jadd, jsub, jmul, jneg, li_0, li_1, li_2, li_3, li_4, li_5, li_6, li_7, li_8, li_9, li_10, li_14, li_15, li_16, li_19, li_20, li_24, li_30, li_31, li_32, li_39, li_40, li_48, li_57, li_59, li_60, li_63, li_65, li_80, li_81, li_90, li_97, li_99, li_100, li_122, li_126, li_127, li_150, li_160, li_200, li_225, li_255, li_400, li_799, li_800, li_999, li_2400, li_3239, li_3240, li_1048575, li_1431655765, li_858993459, li_252645135, eqb_j, ltb_j, leb_j, inb_j, ix_j, ix_n, nz_b, nz_0, nz_1, eqb_b, bnot, vI_ne, vI_eq, gIL, gLI, gIR, gRI, gLR, gRL, Int.reduceLT, Int.reduceLE, Int.reduceEq, Int.reduceAdd, Int.reduceSub, Int.reduceMul, Int.reduceNeg, Int.reduceToNat, Nat.reduceEqDiff, reduceIte, if_neg, if_pos, gI_ne, ll_0, ll_1, ll_3, ll_5, ll_9, ll_10, ll_13, ll_14, ll_19, ll_20, ll_32, ll_60, ll_126, ll_799, ll_1024, ll_1048576, ll_67108864, Zladd, Zlsub, Zlmul, Zlneg, toL, lg_lt, lg_gt, lg_le, isAskM (openM (sI m 1 1 (Zi 0))) (by rw [o1]; exact n32), o1]
    refine fin (-2) m (openM (sI m 1 1 (Zi 0))) (by omega) e1 (fun _ _ _ => rfl) rfl e4 (fun c k hc => o4 c k (by omega)) o5 o3 (hNo.mono fun c k hc => ?_)
    rw [o4 c k (by omega), gI_ne (by omega)]
