/-! the evening: what a policy asks, the reference; which line holds -/
theorem minM {d s : Nat → Nat → Int} {K : Nat} {v : qM} (hD : DOk d) (h : MS d s K v) (a : Nat) (ha : (a : Int) < d 98 32) (hl : d 125 a ≠ -1) : fX13_minuteOf (Zi a) v = some (Zi (d 99 0 * d 125 a), v) := by
  have n2 := hD.2.2.2.2.2.1
  have e1 := h.1 125 a (by unfold dE; omega)
  have e2 := h.1 99 0 (by unfold dE; omega)
  rw [fX13_minuteOf_d]
  simp (disch := omega) only [fX13_minuteOf_0, qbI_s, qbL_s, qbV_s, qbR_s, qbR_n, qbN_s, qbN_n, qbIX_s, qbIX_n, qbVX_s, qbVX_n, cond_true, cond_false, cond_dec, jadd, jsub, jmul, jneg, li_0, li_1, li_2, li_3, li_4, li_5, li_6, li_7, li_8, li_9, li_10, li_14, li_15, li_16, li_19, li_20, li_24, li_30, li_31, li_32, li_39, li_40, li_48, li_57, li_59, li_60, li_63, li_65, li_80, li_81, li_90, li_97, li_99, li_100, li_122, li_126, li_127, li_150, li_160, li_200, li_225, li_255, li_400, li_799, li_800, li_999, li_2400, li_3239, li_3240, li_1048575, li_1431655765, li_858993459, li_252645135, eqb_j, ltb_j, leb_j, inb_j, ix_j, ix_n, nz_b, nz_0, nz_1, eqb_b, bnot, vI_ne, vI_eq, gIL, gLI, gIR, gRI, gLR, gRL, Int.reduceLT, Int.reduceLE, Int.reduceEq, Int.reduceAdd, Int.reduceSub, Int.reduceMul, Int.reduceNeg, Int.reduceToNat, Nat.reduceEqDiff, reduceIte, if_neg, if_pos, gI_ne, gIv 99, gIv 125, e1, e2]
theorem seenM {d s : Nat → Nat → Int} {K : Nat} {v : qM} (hD : DOk d) (hS : SI d s) (h : MS d s K v) (a : Nat) (ha : opn d s a) (u : Int) (hu : 0 ≤ u ∧ u ≤ 799) (k : Nat) (hk : k < 6) : fX13_seen (Zi k) (Zi a) (Zi u) v = some (Zi (factV d s a u k), v) := by
  have a1 := ha.1
  have n1 := hD.2.2.2.2.1
  have n2 := hD.2.2.2.2.2.1
  obtain ⟨k1, k2, k3, k4⟩ := hD.2.2.2.2.2.2 a a1
  obtain ⟨t, ht⟩ : ∃ t : Nat, d 124 a = t := ⟨(d 124 a).toNat, by omega⟩
  have mr := min_r hD a a1 ha.2.1
  have mA := minM hD h a a1 ha.2.1
  have e32 := h.1 98 32 (by unfold dE; omega)
  have e124 := h.1 124 a (by unfold dE; omega)
  have e125 := h.1 125 a (by unfold dE; omega)
  have e126 := h.1 126 a (by unfold dE; omega)
  have hA := hereM hD hS h a a1 u (by omega)
  have hfs : factV d s a u k = if k = 0 then u - d 99 0 * d 125 a else if k = 1 then fb_ct (wtP d s t u) (d 98 32).toNat else if k = 2 then fb_ct (lfP d s t) (d 98 32).toNat else if k = 3 then d 126 a else if k = 4 then bI (hrB d s a u) else d 125 a := by
    unfold factV
    rw [ht, Int.toNat_natCast]
  have w1 : ∀ (r i g : Nat), i + r = (d 98 32).toNat → r < g → fX13_seen_12 g (Zi a) (Zi u) (Zi (fb_ct (wtP d s t u) i)) (Zi i) v = some (Zi (fb_ct (wtP d s t u) (d 98 32).toNat), v) := by
    intro r
    induction r with
    | zero =>
      intro i g hi hg
      obtain ⟨g, rfl⟩ : ∃ g', g = g' + 1 := ⟨g - 1, by omega⟩
      rw [show i = (d 98 32).toNat by omega]
      simp (disch := omega) only [fX13_seen_12, qbI_s, qbL_s, qbV_s, qbR_s, qbR_n, qbN_s, qbN_n, qbIX_s, qbIX_n, qbVX_s, qbVX_n, cond_true, cond_false, cond_dec, jadd, jsub, jmul, jneg, li_0, li_1, li_2, li_3, li_4, li_5, li_6, li_7, li_8, li_9, li_10, li_14, li_15, li_16, li_19, li_20, li_24, li_30, li_31, li_32, li_39, li_40, li_48, li_57, li_59, li_60, li_63, li_65, li_80, li_81, li_90, li_97, li_99, li_100, li_122, li_126, li_127, li_150, li_160, li_200, li_225, li_255, li_400, li_799, li_800, li_999, li_2400, li_3239, li_3240, li_1048575, li_1431655765, li_858993459, li_252645135, eqb_j, ltb_j, leb_j, inb_j, ix_j, ix_n, nz_b, nz_0, nz_1, eqb_b, bnot, vI_ne, vI_eq, gIL, gLI, gIR, gRI, gLR, gRL, Int.reduceLT, Int.reduceLE, Int.reduceEq, Int.reduceAdd, Int.reduceSub, Int.reduceMul, Int.reduceNeg, Int.reduceToNat, Nat.reduceEqDiff, reduceIte, if_neg, if_pos, gI_ne, gIv 98, e32]
    | succ r ih =>
      intro i g hi hg
      obtain ⟨g, rfl⟩ : ∃ g', g = g' + 1 := ⟨g - 1, by omega⟩
      have ih2 := ih (i + 1) g (by omega) (by omega)
      rw [fb_ct_succ] at ih2
      have hct := fb_ct_le (wtP d s t u) i
      have hi' : (i : Int) < d 98 32 := by omega
      obtain ⟨-, q2, -, q4⟩ := hD.2.2.2.2.2.2 i hi'
      have i124 := h.1 124 i (by unfold dE; omega)
      have oM := openM_s hD hS h i hi'
      by_cases g1 : d 124 i = t
      · by_cases g2 : opn d s i
        · rw [pd_t g2] at oM
          have im := minM hD h i hi' g2.2.1
          have ir := min_r hD i hi' g2.2.1
          have hh := hereM hD hS h i hi' u (by omega)
          by_cases g3 : d 99 0 * d 125 i ≤ u
          · have hW : wtP d s t u i = hrB d s i u := by
              unfold wtP
              rw [Bool.eq_iff_iff, pd_iff]
              exact ⟨fun z => z.2.2.2, fun z => ⟨g2, g1, g3, z⟩⟩
            rw [hW] at ih2
            cases c : hrB d s i u
            · rw [c] at hh ih2
              simp (disch := omega) only [fX13_seen_12, fX13_seen_43, fX13_seen_42, qbI_s, qbL_s, qbV_s, qbR_s, qbR_n, qbN_s, qbN_n, qbIX_s, qbIX_n, qbVX_s, qbVX_n, cond_true, cond_false, cond_dec, jadd, jsub, jmul, jneg, li_0, li_1, li_2, li_3, li_4, li_5, li_6, li_7, li_8, li_9, li_10, li_14, li_15, li_16, li_19, li_20, li_24, li_30, li_31, li_32, li_39, li_40, li_48, li_57, li_59, li_60, li_63, li_65, li_80, li_81, li_90, li_97, li_99, li_100, li_122, li_126, li_127, li_150, li_160, li_200, li_225, li_255, li_400, li_799, li_800, li_999, li_2400, li_3239, li_3240, li_1048575, li_1431655765, li_858993459, li_252645135, eqb_j, ltb_j, leb_j, inb_j, ix_j, ix_n, nz_b, nz_0, nz_1, eqb_b, bnot, vI_ne, vI_eq, gIL, gLI, gIR, gRI, gLR, gRL, Int.reduceLT, Int.reduceLE, Int.reduceEq, Int.reduceAdd, Int.reduceSub, Int.reduceMul, Int.reduceNeg, Int.reduceToNat, Nat.reduceEqDiff, reduceIte, if_neg, if_pos, gI_ne, gIv 98, e32, gIv 124, e124, ht, i124, g1, oM, im, hh, show bI true = 1 from rfl, show bI false = 0 from rfl]
              rw [Int.add_zero]
              exact ih2
            · rw [c] at hh ih2
              simp (disch := omega) only [fX13_seen_12, fX13_seen_43, fX13_seen_42, qbI_s, qbL_s, qbV_s, qbR_s, qbR_n, qbN_s, qbN_n, qbIX_s, qbIX_n, qbVX_s, qbVX_n, cond_true, cond_false, cond_dec, jadd, jsub, jmul, jneg, li_0, li_1, li_2, li_3, li_4, li_5, li_6, li_7, li_8, li_9, li_10, li_14, li_15, li_16, li_19, li_20, li_24, li_30, li_31, li_32, li_39, li_40, li_48, li_57, li_59, li_60, li_63, li_65, li_80, li_81, li_90, li_97, li_99, li_100, li_122, li_126, li_127, li_150, li_160, li_200, li_225, li_255, li_400, li_799, li_800, li_999, li_2400, li_3239, li_3240, li_1048575, li_1431655765, li_858993459, li_252645135, eqb_j, ltb_j, leb_j, inb_j, ix_j, ix_n, nz_b, nz_0, nz_1, eqb_b, bnot, vI_ne, vI_eq, gIL, gLI, gIR, gRI, gLR, gRL, Int.reduceLT, Int.reduceLE, Int.reduceEq, Int.reduceAdd, Int.reduceSub, Int.reduceMul, Int.reduceNeg, Int.reduceToNat, Nat.reduceEqDiff, reduceIte, if_neg, if_pos, gI_ne, gIv 98, e32, gIv 124, e124, ht, i124, g1, oM, im, hh, show bI true = 1 from rfl]
              exact ih2
          · have hW : wtP d s t u i = false := pd_f fun z => g3 z.2.2.1
            rw [hW] at ih2
            simp (disch := omega) only [fX13_seen_12, fX13_seen_43, fX13_seen_42, qbI_s, qbL_s, qbV_s, qbR_s, qbR_n, qbN_s, qbN_n, qbIX_s, qbIX_n, qbVX_s, qbVX_n, cond_true, cond_false, cond_dec, jadd, jsub, jmul, jneg, li_0, li_1, li_2, li_3, li_4, li_5, li_6, li_7, li_8, li_9, li_10, li_14, li_15, li_16, li_19, li_20, li_24, li_30, li_31, li_32, li_39, li_40, li_48, li_57, li_59, li_60, li_63, li_65, li_80, li_81, li_90, li_97, li_99, li_100, li_122, li_126, li_127, li_150, li_160, li_200, li_225, li_255, li_400, li_799, li_800, li_999, li_2400, li_3239, li_3240, li_1048575, li_1431655765, li_858993459, li_252645135, eqb_j, ltb_j, leb_j, inb_j, ix_j, ix_n, nz_b, nz_0, nz_1, eqb_b, bnot, vI_ne, vI_eq, gIL, gLI, gIR, gRI, gLR, gRL, Int.reduceLT, Int.reduceLE, Int.reduceEq, Int.reduceAdd, Int.reduceSub, Int.reduceMul, Int.reduceNeg, Int.reduceToNat, Nat.reduceEqDiff, reduceIte, if_neg, if_pos, gI_ne, gIv 98, e32, gIv 124, e124, ht, i124, g1, oM, im, show bI true = 1 from rfl]
            rw [Int.add_zero]
            exact ih2
        · rw [pd_f g2] at oM
          have hW : wtP d s t u i = false := pd_f fun z => g2 z.1
          rw [hW] at ih2
          simp (disch := omega) only [fX13_seen_12, fX13_seen_43, fX13_seen_42, qbI_s, qbL_s, qbV_s, qbR_s, qbR_n, qbN_s, qbN_n, qbIX_s, qbIX_n, qbVX_s, qbVX_n, cond_true, cond_false, cond_dec, jadd, jsub, jmul, jneg, li_0, li_1, li_2, li_3, li_4, li_5, li_6, li_7, li_8, li_9, li_10, li_14, li_15, li_16, li_19, li_20, li_24, li_30, li_31, li_32, li_39, li_40, li_48, li_57, li_59, li_60, li_63, li_65, li_80, li_81, li_90, li_97, li_99, li_100, li_122, li_126, li_127, li_150, li_160, li_200, li_225, li_255, li_400, li_799, li_800, li_999, li_2400, li_3239, li_3240, li_1048575, li_1431655765, li_858993459, li_252645135, eqb_j, ltb_j, leb_j, inb_j, ix_j, ix_n, nz_b, nz_0, nz_1, eqb_b, bnot, vI_ne, vI_eq, gIL, gLI, gIR, gRI, gLR, gRL, Int.reduceLT, Int.reduceLE, Int.reduceEq, Int.reduceAdd, Int.reduceSub, Int.reduceMul, Int.reduceNeg, Int.reduceToNat, Nat.reduceEqDiff, reduceIte, if_neg, if_pos, gI_ne, gIv 98, e32, gIv 124, e124, ht, i124, g1, oM, show bI false = 0 from rfl]
          rw [Int.add_zero]
          exact ih2
      · have hW : wtP d s t u i = false := pd_f fun z => g1 z.2.1
        rw [hW] at ih2
        simp (disch := omega) only [fX13_seen_12, fX13_seen_43, fX13_seen_42, qbI_s, qbL_s, qbV_s, qbR_s, qbR_n, qbN_s, qbN_n, qbIX_s, qbIX_n, qbVX_s, qbVX_n, cond_true, cond_false, cond_dec, jadd, jsub, jmul, jneg, li_0, li_1, li_2, li_3, li_4, li_5, li_6, li_7, li_8, li_9, li_10, li_14, li_15, li_16, li_19, li_20, li_24, li_30, li_31, li_32, li_39, li_40, li_48, li_57, li_59, li_60, li_63, li_65, li_80, li_81, li_90, li_97, li_99, li_100, li_122, li_126, li_127, li_150, li_160, li_200, li_225, li_255, li_400, li_799, li_800, li_999, li_2400, li_3239, li_3240, li_1048575, li_1431655765, li_858993459, li_252645135, eqb_j, ltb_j, leb_j, inb_j, ix_j, ix_n, nz_b, nz_0, nz_1, eqb_b, bnot, vI_ne, vI_eq, gIL, gLI, gIR, gRI, gLR, gRL, Int.reduceLT, Int.reduceLE, Int.reduceEq, Int.reduceAdd, Int.reduceSub, Int.reduceMul, Int.reduceNeg, Int.reduceToNat, Nat.reduceEqDiff, reduceIte, if_neg, if_pos, gI_ne, gIv 98, e32, gIv 124, e124, ht, i124]
        rw [Int.add_zero]
        exact ih2
  have w2 : ∀ (r i g : Nat), i + r = (d 98 32).toNat → r < g → fX13_seen_51 g (Zi a) (Zi (fb_ct (lfP d s t) i)) (Zi i) v = some (Zi (fb_ct (lfP d s t) (d 98 32).toNat), v) := by
    intro r
    induction r with
    | zero =>
      intro i g hi hg
      obtain ⟨g, rfl⟩ : ∃ g', g = g' + 1 := ⟨g - 1, by omega⟩
      rw [show i = (d 98 32).toNat by omega]
      simp (disch := omega) only [fX13_seen_51, qbI_s, qbL_s, qbV_s, qbR_s, qbR_n, qbN_s, qbN_n, qbIX_s, qbIX_n, qbVX_s, qbVX_n, cond_true, cond_false, cond_dec, jadd, jsub, jmul, jneg, li_0, li_1, li_2, li_3, li_4, li_5, li_6, li_7, li_8, li_9, li_10, li_14, li_15, li_16, li_19, li_20, li_24, li_30, li_31, li_32, li_39, li_40, li_48, li_57, li_59, li_60, li_63, li_65, li_80, li_81, li_90, li_97, li_99, li_100, li_122, li_126, li_127, li_150, li_160, li_200, li_225, li_255, li_400, li_799, li_800, li_999, li_2400, li_3239, li_3240, li_1048575, li_1431655765, li_858993459, li_252645135, eqb_j, ltb_j, leb_j, inb_j, ix_j, ix_n, nz_b, nz_0, nz_1, eqb_b, bnot, vI_ne, vI_eq, gIL, gLI, gIR, gRI, gLR, gRL, Int.reduceLT, Int.reduceLE, Int.reduceEq, Int.reduceAdd, Int.reduceSub, Int.reduceMul, Int.reduceNeg, Int.reduceToNat, Nat.reduceEqDiff, reduceIte, if_neg, if_pos, gI_ne, gIv 98, e32]
    | succ r ih =>
      intro i g hi hg
      obtain ⟨g, rfl⟩ : ∃ g', g = g' + 1 := ⟨g - 1, by omega⟩
      have ih2 := ih (i + 1) g (by omega) (by omega)
      rw [fb_ct_succ] at ih2
      have hct := fb_ct_le (lfP d s t) i
      have hi' : (i : Int) < d 98 32 := by omega
      obtain ⟨-, q2, -, q4⟩ := hD.2.2.2.2.2.2 i hi'
      have i124 := h.1 124 i (by unfold dE; omega)
      have oM := openM_s hD hS h i hi'
      by_cases g1 : d 124 i = t
      · by_cases g2 : opn d s i
        · rw [pd_t g2] at oM
          rw [show lfP d s t i = true from pd_t ⟨g2, g1⟩] at ih2
          simp (disch := omega) only [fX13_seen_51, fX13_seen_72, fX13_seen_71, qbI_s, qbL_s, qbV_s, qbR_s, qbR_n, qbN_s, qbN_n, qbIX_s, qbIX_n, qbVX_s, qbVX_n, cond_true, cond_false, cond_dec, jadd, jsub, jmul, jneg, li_0, li_1, li_2, li_3, li_4, li_5, li_6, li_7, li_8, li_9, li_10, li_14, li_15, li_16, li_19, li_20, li_24, li_30, li_31, li_32, li_39, li_40, li_48, li_57, li_59, li_60, li_63, li_65, li_80, li_81, li_90, li_97, li_99, li_100, li_122, li_126, li_127, li_150, li_160, li_200, li_225, li_255, li_400, li_799, li_800, li_999, li_2400, li_3239, li_3240, li_1048575, li_1431655765, li_858993459, li_252645135, eqb_j, ltb_j, leb_j, inb_j, ix_j, ix_n, nz_b, nz_0, nz_1, eqb_b, bnot, vI_ne, vI_eq, gIL, gLI, gIR, gRI, gLR, gRL, Int.reduceLT, Int.reduceLE, Int.reduceEq, Int.reduceAdd, Int.reduceSub, Int.reduceMul, Int.reduceNeg, Int.reduceToNat, Nat.reduceEqDiff, reduceIte, if_neg, if_pos, gI_ne, gIv 98, e32, gIv 124, e124, ht, i124, g1, oM, show bI true = 1 from rfl]
          exact ih2
        · rw [pd_f g2] at oM
          rw [show lfP d s t i = false from pd_f fun z => g2 z.1] at ih2
          simp (disch := omega) only [fX13_seen_51, fX13_seen_72, fX13_seen_71, qbI_s, qbL_s, qbV_s, qbR_s, qbR_n, qbN_s, qbN_n, qbIX_s, qbIX_n, qbVX_s, qbVX_n, cond_true, cond_false, cond_dec, jadd, jsub, jmul, jneg, li_0, li_1, li_2, li_3, li_4, li_5, li_6, li_7, li_8, li_9, li_10, li_14, li_15, li_16, li_19, li_20, li_24, li_30, li_31, li_32, li_39, li_40, li_48, li_57, li_59, li_60, li_63, li_65, li_80, li_81, li_90, li_97, li_99, li_100, li_122, li_126, li_127, li_150, li_160, li_200, li_225, li_255, li_400, li_799, li_800, li_999, li_2400, li_3239, li_3240, li_1048575, li_1431655765, li_858993459, li_252645135, eqb_j, ltb_j, leb_j, inb_j, ix_j, ix_n, nz_b, nz_0, nz_1, eqb_b, bnot, vI_ne, vI_eq, gIL, gLI, gIR, gRI, gLR, gRL, Int.reduceLT, Int.reduceLE, Int.reduceEq, Int.reduceAdd, Int.reduceSub, Int.reduceMul, Int.reduceNeg, Int.reduceToNat, Nat.reduceEqDiff, reduceIte, if_neg, if_pos, gI_ne, gIv 98, e32, gIv 124, e124, ht, i124, g1, oM, show bI false = 0 from rfl]
          rw [Int.add_zero]
          exact ih2
      · rw [show lfP d s t i = false from pd_f fun z => g1 z.2] at ih2
        simp (disch := omega) only [fX13_seen_51, fX13_seen_72, fX13_seen_71, qbI_s, qbL_s, qbV_s, qbR_s, qbR_n, qbN_s, qbN_n, qbIX_s, qbIX_n, qbVX_s, qbVX_n, cond_true, cond_false, cond_dec, jadd, jsub, jmul, jneg, li_0, li_1, li_2, li_3, li_4, li_5, li_6, li_7, li_8, li_9, li_10, li_14, li_15, li_16, li_19, li_20, li_24, li_30, li_31, li_32, li_39, li_40, li_48, li_57, li_59, li_60, li_63, li_65, li_80, li_81, li_90, li_97, li_99, li_100, li_122, li_126, li_127, li_150, li_160, li_200, li_225, li_255, li_400, li_799, li_800, li_999, li_2400, li_3239, li_3240, li_1048575, li_1431655765, li_858993459, li_252645135, eqb_j, ltb_j, leb_j, inb_j, ix_j, ix_n, nz_b, nz_0, nz_1, eqb_b, bnot, vI_ne, vI_eq, gIL, gLI, gIR, gRI, gLR, gRL, Int.reduceLT, Int.reduceLE, Int.reduceEq, Int.reduceAdd, Int.reduceSub, Int.reduceMul, Int.reduceNeg, Int.reduceToNat, Nat.reduceEqDiff, reduceIte, if_neg, if_pos, gI_ne, gIv 98, e32, gIv 124, e124, ht, i124]
        rw [Int.add_zero]
        exact ih2
  have w1' := w1 (d 98 32).toNat 0 FU (by omega) (by rw [FU_d]; omega)
  have w2' := w2 (d 98 32).toNat 0 FU (by omega) (by rw [FU_d]; omega)
  have z1 : fb_ct (wtP d s t u) 0 = 0 := rfl
  have z2 : fb_ct (lfP d s t) 0 = 0 := rfl
  rw [z1] at w1'
  rw [z2] at w2'
  change fX13_seen_12 FU (Zi a) (Zi u) (Zi 0) (Zi 0) v = _ at w1'
  change fX13_seen_51 FU (Zi a) (Zi 0) (Zi 0) v = _ at w2'
  rw [fX13_seen_d, hfs]
  obtain rfl | rfl | rfl | rfl | rfl | rfl : k = 0 ∨ k = 1 ∨ k = 2 ∨ k = 3 ∨ k = 4 ∨ k = 5 := by omega
  · simp (disch := omega) only [fX13_seen_0, qbI_s, qbL_s, qbV_s, qbR_s, qbR_n, qbN_s, qbN_n, qbIX_s, qbIX_n, qbVX_s, qbVX_n, cond_true, cond_false, cond_dec, jadd, jsub, jmul, jneg, li_0, li_1, li_2, li_3, li_4, li_5, li_6, li_7, li_8, li_9, li_10, li_14, li_15, li_16, li_19, li_20, li_24, li_30, li_31, li_32, li_39, li_40, li_48, li_57, li_59, li_60, li_63, li_65, li_80, li_81, li_90, li_97, li_99, li_100, li_122, li_126, li_127, li_150, li_160, li_200, li_225, li_255, li_400, li_799, li_800, li_999, li_2400, li_3239, li_3240, li_1048575, li_1431655765, li_858993459, li_252645135, eqb_j, ltb_j, leb_j, inb_j, ix_j, ix_n, nz_b, nz_0, nz_1, eqb_b, bnot, vI_ne, vI_eq, gIL, gLI, gIR, gRI, gLR, gRL, Int.reduceLT, Int.reduceLE, Int.reduceEq, Int.reduceAdd, Int.reduceSub, Int.reduceMul, Int.reduceNeg, Int.reduceToNat, Nat.reduceEqDiff, reduceIte, if_neg, if_pos, gI_ne, mA]
  · simp (disch := omega) only [fX13_seen_0, qbI_s, qbL_s, qbV_s, qbR_s, qbR_n, qbN_s, qbN_n, qbIX_s, qbIX_n, qbVX_s, qbVX_n, cond_true, cond_false, cond_dec, jadd, jsub, jmul, jneg, li_0, li_1, li_2, li_3, li_4, li_5, li_6, li_7, li_8, li_9, li_10, li_14, li_15, li_16, li_19, li_20, li_24, li_30, li_31, li_32, li_39, li_40, li_48, li_57, li_59, li_60, li_63, li_65, li_80, li_81, li_90, li_97, li_99, li_100, li_122, li_126, li_127, li_150, li_160, li_200, li_225, li_255, li_400, li_799, li_800, li_999, li_2400, li_3239, li_3240, li_1048575, li_1431655765, li_858993459, li_252645135, eqb_j, ltb_j, leb_j, inb_j, ix_j, ix_n, nz_b, nz_0, nz_1, eqb_b, bnot, vI_ne, vI_eq, gIL, gLI, gIR, gRI, gLR, gRL, Int.reduceLT, Int.reduceLE, Int.reduceEq, Int.reduceAdd, Int.reduceSub, Int.reduceMul, Int.reduceNeg, Int.reduceToNat, Nat.reduceEqDiff, reduceIte, if_neg, if_pos, gI_ne]
    exact w1'
  · simp (disch := omega) only [fX13_seen_0, qbI_s, qbL_s, qbV_s, qbR_s, qbR_n, qbN_s, qbN_n, qbIX_s, qbIX_n, qbVX_s, qbVX_n, cond_true, cond_false, cond_dec, jadd, jsub, jmul, jneg, li_0, li_1, li_2, li_3, li_4, li_5, li_6, li_7, li_8, li_9, li_10, li_14, li_15, li_16, li_19, li_20, li_24, li_30, li_31, li_32, li_39, li_40, li_48, li_57, li_59, li_60, li_63, li_65, li_80, li_81, li_90, li_97, li_99, li_100, li_122, li_126, li_127, li_150, li_160, li_200, li_225, li_255, li_400, li_799, li_800, li_999, li_2400, li_3239, li_3240, li_1048575, li_1431655765, li_858993459, li_252645135, eqb_j, ltb_j, leb_j, inb_j, ix_j, ix_n, nz_b, nz_0, nz_1, eqb_b, bnot, vI_ne, vI_eq, gIL, gLI, gIR, gRI, gLR, gRL, Int.reduceLT, Int.reduceLE, Int.reduceEq, Int.reduceAdd, Int.reduceSub, Int.reduceMul, Int.reduceNeg, Int.reduceToNat, Nat.reduceEqDiff, reduceIte, if_neg, if_pos, gI_ne]
    exact w2'
  · rcases k3 with g | g
    · simp (disch := omega) only [fX13_seen_0, fX13_seen_86, qbI_s, qbL_s, qbV_s, qbR_s, qbR_n, qbN_s, qbN_n, qbIX_s, qbIX_n, qbVX_s, qbVX_n, cond_true, cond_false, cond_dec, jadd, jsub, jmul, jneg, li_0, li_1, li_2, li_3, li_4, li_5, li_6, li_7, li_8, li_9, li_10, li_14, li_15, li_16, li_19, li_20, li_24, li_30, li_31, li_32, li_39, li_40, li_48, li_57, li_59, li_60, li_63, li_65, li_80, li_81, li_90, li_97, li_99, li_100, li_122, li_126, li_127, li_150, li_160, li_200, li_225, li_255, li_400, li_799, li_800, li_999, li_2400, li_3239, li_3240, li_1048575, li_1431655765, li_858993459, li_252645135, eqb_j, ltb_j, leb_j, inb_j, ix_j, ix_n, nz_b, nz_0, nz_1, eqb_b, bnot, vI_ne, vI_eq, gIL, gLI, gIR, gRI, gLR, gRL, Int.reduceLT, Int.reduceLE, Int.reduceEq, Int.reduceAdd, Int.reduceSub, Int.reduceMul, Int.reduceNeg, Int.reduceToNat, Nat.reduceEqDiff, reduceIte, if_neg, if_pos, gI_ne, gIv 126, e126, g]
    · simp (disch := omega) only [fX13_seen_0, fX13_seen_86, qbI_s, qbL_s, qbV_s, qbR_s, qbR_n, qbN_s, qbN_n, qbIX_s, qbIX_n, qbVX_s, qbVX_n, cond_true, cond_false, cond_dec, jadd, jsub, jmul, jneg, li_0, li_1, li_2, li_3, li_4, li_5, li_6, li_7, li_8, li_9, li_10, li_14, li_15, li_16, li_19, li_20, li_24, li_30, li_31, li_32, li_39, li_40, li_48, li_57, li_59, li_60, li_63, li_65, li_80, li_81, li_90, li_97, li_99, li_100, li_122, li_126, li_127, li_150, li_160, li_200, li_225, li_255, li_400, li_799, li_800, li_999, li_2400, li_3239, li_3240, li_1048575, li_1431655765, li_858993459, li_252645135, eqb_j, ltb_j, leb_j, inb_j, ix_j, ix_n, nz_b, nz_0, nz_1, eqb_b, bnot, vI_ne, vI_eq, gIL, gLI, gIR, gRI, gLR, gRL, Int.reduceLT, Int.reduceLE, Int.reduceEq, Int.reduceAdd, Int.reduceSub, Int.reduceMul, Int.reduceNeg, Int.reduceToNat, Nat.reduceEqDiff, reduceIte, if_neg, if_pos, gI_ne, gIv 126, e126, g]
  · cases c : hrB d s a u
    · rw [c] at hA
      simp (disch := omega) only [fX13_seen_0, fX13_seen_95, qbI_s, qbL_s, qbV_s, qbR_s, qbR_n, qbN_s, qbN_n, qbIX_s, qbIX_n, qbVX_s, qbVX_n, cond_true, cond_false, cond_dec, jadd, jsub, jmul, jneg, li_0, li_1, li_2, li_3, li_4, li_5, li_6, li_7, li_8, li_9, li_10, li_14, li_15, li_16, li_19, li_20, li_24, li_30, li_31, li_32, li_39, li_40, li_48, li_57, li_59, li_60, li_63, li_65, li_80, li_81, li_90, li_97, li_99, li_100, li_122, li_126, li_127, li_150, li_160, li_200, li_225, li_255, li_400, li_799, li_800, li_999, li_2400, li_3239, li_3240, li_1048575, li_1431655765, li_858993459, li_252645135, eqb_j, ltb_j, leb_j, inb_j, ix_j, ix_n, nz_b, nz_0, nz_1, eqb_b, bnot, vI_ne, vI_eq, gIL, gLI, gIR, gRI, gLR, gRL, Int.reduceLT, Int.reduceLE, Int.reduceEq, Int.reduceAdd, Int.reduceSub, Int.reduceMul, Int.reduceNeg, Int.reduceToNat, Nat.reduceEqDiff, reduceIte, if_neg, if_pos, gI_ne, hA, show bI false = 0 from rfl]
    · rw [c] at hA
      simp (disch := omega) only [fX13_seen_0, fX13_seen_95, qbI_s, qbL_s, qbV_s, qbR_s, qbR_n, qbN_s, qbN_n, qbIX_s, qbIX_n, qbVX_s, qbVX_n, cond_true, cond_false, cond_dec, jadd, jsub, jmul, jneg, li_0, li_1, li_2, li_3, li_4, li_5, li_6, li_7, li_8, li_9, li_10, li_14, li_15, li_16, li_19, li_20, li_24, li_30, li_31, li_32, li_39, li_40, li_48, li_57, li_59, li_60, li_63, li_65, li_80, li_81, li_90, li_97, li_99, li_100, li_122, li_126, li_127, li_150, li_160, li_200, li_225, li_255, li_400, li_799, li_800, li_999, li_2400, li_3239, li_3240, li_1048575, li_1431655765, li_858993459, li_252645135, eqb_j, ltb_j, leb_j, inb_j, ix_j, ix_n, nz_b, nz_0, nz_1, eqb_b, bnot, vI_ne, vI_eq, gIL, gLI, gIR, gRI, gLR, gRL, Int.reduceLT, Int.reduceLE, Int.reduceEq, Int.reduceAdd, Int.reduceSub, Int.reduceMul, Int.reduceNeg, Int.reduceToNat, Nat.reduceEqDiff, reduceIte, if_neg, if_pos, gI_ne, hA, show bI true = 1 from rfl]
  · simp (disch := omega) only [fX13_seen_0, qbI_s, qbL_s, qbV_s, qbR_s, qbR_n, qbN_s, qbN_n, qbIX_s, qbIX_n, qbVX_s, qbVX_n, cond_true, cond_false, cond_dec, jadd, jsub, jmul, jneg, li_0, li_1, li_2, li_3, li_4, li_5, li_6, li_7, li_8, li_9, li_10, li_14, li_15, li_16, li_19, li_20, li_24, li_30, li_31, li_32, li_39, li_40, li_48, li_57, li_59, li_60, li_63, li_65, li_80, li_81, li_90, li_97, li_99, li_100, li_122, li_126, li_127, li_150, li_160, li_200, li_225, li_255, li_400, li_799, li_800, li_999, li_2400, li_3239, li_3240, li_1048575, li_1431655765, li_858993459, li_252645135, eqb_j, ltb_j, leb_j, inb_j, ix_j, ix_n, nz_b, nz_0, nz_1, eqb_b, bnot, vI_ne, vI_eq, gIL, gLI, gIR, gRI, gLR, gRL, Int.reduceLT, Int.reduceLE, Int.reduceEq, Int.reduceAdd, Int.reduceSub, Int.reduceMul, Int.reduceNeg, Int.reduceToNat, Nat.reduceEqDiff, reduceIte, if_neg, if_pos, gI_ne, gIv 125, e125]
noncomputable def cdB (d s : Nat → Nat → Int) (a : Nat) (u : Int) (c : Nat) : Bool := if d 106 c = 1 then decide (d 107 c < factV d s a u (d 105 c).toNat) else if d 106 c = -1 then decide (factV d s a u (d 105 c).toNat < d 107 c) else decide (factV d s a u (d 105 c).toNat = d 107 c)
noncomputable def hoB (d s : Nat → Nat → Int) (a : Nat) (u : Int) (l : Nat) : Bool := pd (∀ j : Nat, (j : Int) < d 104 l → cdB d s a u (4 * l + j) = true)
/-- what a policy is like, at a place -/
def PolD (d : Nat → Nat → Int) (p : Nat) : Prop := (0 ≤ d 101 p ∧ d 101 p ≤ 8) ∧ ∀ l : Nat, (l : Int) < d 101 p → (1 ≤ d 104 (8 * p + l) ∧ d 104 (8 * p + l) ≤ 4) ∧ (0 ≤ d 102 (8 * p + l) ∧ d 102 (8 * p + l) ≤ 5) ∧ (0 ≤ d 103 (8 * p + l) ∧ d 103 (8 * p + l) ≤ 30 ∧ (d 102 (8 * p + l) = 4 ∨ d 102 (8 * p + l) = 5 → 1 ≤ d 103 (8 * p + l))) ∧ ∀ c : Nat, (c : Int) < d 104 (8 * p + l) → (0 ≤ d 105 (4 * (8 * p + l) + c) ∧ d 105 (4 * (8 * p + l) + c) ≤ 5) ∧ (d 106 (4 * (8 * p + l) + c) = 1 ∨ d 106 (4 * (8 * p + l) + c) = -1 ∨ d 106 (4 * (8 * p + l) + c) = 0) ∧ (0 ≤ d 107 (4 * (8 * p + l) + c) ∧ d 107 (4 * (8 * p + l) + c) ≤ 999)
theorem PolD.of {m : qM} {q p : Nat} (h : RPolL m q p) : PolD (vI m) p := by
  obtain ⟨h1, h2, h3, h4⟩ := h
  refine ⟨⟨h2, h3⟩, fun l hl => ?_⟩
  obtain ⟨a1, a2, a3, a4⟩ := h4 l hl
  refine ⟨a1.2, a2.2, a3.2, fun c hc => ?_⟩
  obtain ⟨b1, b2, b3⟩ := a4 c hc
  refine ⟨b1.2, ?_, b3.2⟩
  rcases b2 with b2 | b2 | b2
  · exact Or.inl b2.2
  · exact Or.inr (Or.inl b2.2)
  · exact Or.inr (Or.inr b2.2)
theorem allStep {P : Nat → Bool} {i n : Nat} (hi : i < n) : pd (∀ j, i ≤ j → j < n → P j = true) = (P i && pd (∀ j, i + 1 ≤ j → j < n → P j = true)) := by
  rw [Bool.eq_iff_iff, Bool.and_eq_true, pd_iff, pd_iff]
  constructor
  · exact fun h => ⟨h i (Nat.le_refl _) hi, fun j h1 h2 => h j (by omega) h2⟩
  · rintro ⟨h1, h2⟩ j h3 h4
    by_cases e : j = i
    · rw [e]; exact h1
    · exact h2 j (by omega) h4
theorem holdsM {d s : Nat → Nat → Int} {K : Nat} {v : qM} (hD : DOk d) (hS : SI d s) (h : MS d s K v) (a : Nat) (ha : opn d s a) (u : Int) (hu : 0 ≤ u ∧ u ≤ 799) (p : Nat) (hp : p < 4) (hP : PolD d p) (l : Nat) (hl : (l : Int) < d 101 p) : fX13_holds (Zi (8 * (p : Int) + l)) (Zi a) (Zi u) v = some (Zi (bI (hoB d s a u (8 * p + l))), v) := by
  obtain ⟨p1, p2⟩ := hP
  obtain ⟨c1, -, -, c4⟩ := p2 l hl
  obtain ⟨L, hL⟩ : ∃ L : Nat, L = 8 * p + l := ⟨_, rfl⟩
  have hL' : 8 * (p : Int) + l = (L : Nat) := by omega
  rw [hL', ← hL]
  rw [← hL] at c1 c4
  have e104 := h.1 104 L (by unfold dE; omega)
  obtain ⟨N, hN⟩ : ∃ N : Nat, d 104 L = N := ⟨(d 104 L).toNat, by omega⟩
  have n2 := hD.2.2.2.2.2.1
  have a1 := ha.1
  have loop : ∀ (r j g : Nat), j + r = N → r < g → fX13_holds_4 g (Zi L) (Zi a) (Zi u) (Zi ((4 * L + j : Nat) : Int)) v = some (Zi (bI (pd (∀ i, j ≤ i → i < N → cdB d s a u (4 * L + i) = true))), v) := by
    intro r
    induction r with
    | zero =>
      intro j g hj hg
      obtain ⟨g, rfl⟩ : ∃ g', g = g' + 1 := ⟨g - 1, by omega⟩
      rw [pd_t (fun i h1 h2 => by omega)]
      simp (disch := omega) only [fX13_holds_4, qbI_s, qbL_s, qbV_s, qbR_s, qbR_n, qbN_s, qbN_n, qbIX_s, qbIX_n, qbVX_s, qbVX_n, cond_true, cond_false, cond_dec, jadd, jsub, jmul, jneg, li_0, li_1, li_2, li_3, li_4, li_5, li_6, li_7, li_8, li_9, li_10, li_14, li_15, li_16, li_19, li_20, li_24, li_30, li_31, li_32, li_39, li_40, li_48, li_57, li_59, li_60, li_63, li_65, li_80, li_81, li_90, li_97, li_99, li_100, li_122, li_126, li_127, li_150, li_160, li_200, li_225, li_255, li_400, li_799, li_800, li_999, li_2400, li_3239, li_3240, li_1048575, li_1431655765, li_858993459, li_252645135, eqb_j, ltb_j, leb_j, inb_j, ix_j, ix_n, nz_b, nz_0, nz_1, eqb_b, bnot, vI_ne, vI_eq, gIL, gLI, gIR, gRI, gLR, gRL, Int.reduceLT, Int.reduceLE, Int.reduceEq, Int.reduceAdd, Int.reduceSub, Int.reduceMul, Int.reduceNeg, Int.reduceToNat, Nat.reduceEqDiff, reduceIte, if_neg, if_pos, gI_ne, gIv 104, e104, hN]
      rfl
    | succ r ih =>
      intro j g hj hg
      obtain ⟨g, rfl⟩ : ∃ g', g = g' + 1 := ⟨g - 1, by omega⟩
      have ih2 := ih (j + 1) g (by omega) (by omega)
      rw [allStep (P := fun i => cdB d s a u (4 * L + i)) (by omega)]
      obtain ⟨q1, q2, q3⟩ := c4 j (by omega)
      have e105 := h.1 105 (4 * L + j) (by unfold dE; omega)
      have e106 := h.1 106 (4 * L + j) (by unfold dE; omega)
      have e107 := h.1 107 (4 * L + j) (by unfold dE; omega)
      obtain ⟨W, hW⟩ : ∃ W : Nat, d 105 (4 * L + j) = W := ⟨(d 105 (4 * L + j)).toNat, by omega⟩
      have sM := seenM hD hS h a ha u hu W (by omega)
      have fr := factV_r hD a ha u hu W
      have cB : cdB d s a u (4 * L + j) = if d 106 (4 * L + j) = 1 then decide (d 107 (4 * L + j) < factV d s a u W) else if d 106 (4 * L + j) = -1 then decide (factV d s a u W < d 107 (4 * L + j)) else decide (factV d s a u W = d 107 (4 * L + j)) := by
        unfold cdB
        rw [hW, Int.toNat_natCast]
      generalize factV d s a u W = F at *
      obtain ⟨Z, hZ⟩ : ∃ Z, d 107 (4 * L + j) = Z := ⟨_, rfl⟩
      rw [hZ] at cB e107 q3
      have good : cdB d s a u (4 * L + j) = true → fX13_holds_62 (fX13_holds_4 g) (Zi L) (Zi a) (Zi u) (Zi ((4 * L + j : Nat) : Int)) (Zi 1) v = some (Zi (bI (cdB d s a u (4 * L + j) && pd (∀ i, j + 1 ≤ i → i < N → cdB d s a u (4 * L + i) = true))), v) := fun hc => by
        rw [hc, Bool.true_and]
        simp (disch := omega) only [fX13_holds_62, qbI_s, qbL_s, qbV_s, qbR_s, qbR_n, qbN_s, qbN_n, qbIX_s, qbIX_n, qbVX_s, qbVX_n, cond_true, cond_false, cond_dec, jadd, jsub, jmul, jneg, li_0, li_1, li_2, li_3, li_4, li_5, li_6, li_7, li_8, li_9, li_10, li_14, li_15, li_16, li_19, li_20, li_24, li_30, li_31, li_32, li_39, li_40, li_48, li_57, li_59, li_60, li_63, li_65, li_80, li_81, li_90, li_97, li_99, li_100, li_122, li_126, li_127, li_150, li_160, li_200, li_225, li_255, li_400, li_799, li_800, li_999, li_2400, li_3239, li_3240, li_1048575, li_1431655765, li_858993459, li_252645135, eqb_j, ltb_j, leb_j, inb_j, ix_j, ix_n, nz_b, nz_0, nz_1, eqb_b, bnot, vI_ne, vI_eq, gIL, gLI, gIR, gRI, gLR, gRL, Int.reduceLT, Int.reduceLE, Int.reduceEq, Int.reduceAdd, Int.reduceSub, Int.reduceMul, Int.reduceNeg, Int.reduceToNat, Nat.reduceEqDiff, reduceIte, if_neg, if_pos, gI_ne]
        exact ih2
      have bad : cdB d s a u (4 * L + j) = false → fX13_holds_62 (fX13_holds_4 g) (Zi L) (Zi a) (Zi u) (Zi ((4 * L + j : Nat) : Int)) (Zi 0) v = some (Zi (bI (cdB d s a u (4 * L + j) && pd (∀ i, j + 1 ≤ i → i < N → cdB d s a u (4 * L + i) = true))), v) := fun hc => by
        rw [hc, Bool.false_and]
        simp (disch := omega) only [fX13_holds_62, qbI_s, qbL_s, qbV_s, qbR_s, qbR_n, qbN_s, qbN_n, qbIX_s, qbIX_n, qbVX_s, qbVX_n, cond_true, cond_false, cond_dec, jadd, jsub, jmul, jneg, li_0, li_1, li_2, li_3, li_4, li_5, li_6, li_7, li_8, li_9, li_10, li_14, li_15, li_16, li_19, li_20, li_24, li_30, li_31, li_32, li_39, li_40, li_48, li_57, li_59, li_60, li_63, li_65, li_80, li_81, li_90, li_97, li_99, li_100, li_122, li_126, li_127, li_150, li_160, li_200, li_225, li_255, li_400, li_799, li_800, li_999, li_2400, li_3239, li_3240, li_1048575, li_1431655765, li_858993459, li_252645135, eqb_j, ltb_j, leb_j, inb_j, ix_j, ix_n, nz_b, nz_0, nz_1, eqb_b, bnot, vI_ne, vI_eq, gIL, gLI, gIR, gRI, gLR, gRL, Int.reduceLT, Int.reduceLE, Int.reduceEq, Int.reduceAdd, Int.reduceSub, Int.reduceMul, Int.reduceNeg, Int.reduceToNat, Nat.reduceEqDiff, reduceIte, if_neg, if_pos, gI_ne]
        rfl
      have i1 : ((4 * L + j : Nat) : Int).toNat = 4 * L + j := Int.toNat_natCast _
      rcases q2 with q2 | q2 | q2
      · rw [if_pos q2] at cB
        by_cases g1 : Z < F
        · have := good (by rw [cB]; exact decide_eq_true g1)
          simp (disch := omega) only [fX13_holds_4, qbI_s, qbL_s, qbV_s, qbR_s, qbR_n, qbN_s, qbN_n, qbIX_s, qbIX_n, qbVX_s, qbVX_n, cond_true, cond_false, cond_dec, jadd, jsub, jmul, jneg, li_0, li_1, li_2, li_3, li_4, li_5, li_6, li_7, li_8, li_9, li_10, li_14, li_15, li_16, li_19, li_20, li_24, li_30, li_31, li_32, li_39, li_40, li_48, li_57, li_59, li_60, li_63, li_65, li_80, li_81, li_90, li_97, li_99, li_100, li_122, li_126, li_127, li_150, li_160, li_200, li_225, li_255, li_400, li_799, li_800, li_999, li_2400, li_3239, li_3240, li_1048575, li_1431655765, li_858993459, li_252645135, eqb_j, ltb_j, leb_j, inb_j, ix_j, ix_n, nz_b, nz_0, nz_1, eqb_b, bnot, vI_ne, vI_eq, gIL, gLI, gIR, gRI, gLR, gRL, Int.reduceLT, Int.reduceLE, Int.reduceEq, Int.reduceAdd, Int.reduceSub, Int.reduceMul, Int.reduceNeg, Int.reduceToNat, Nat.reduceEqDiff, reduceIte, if_neg, if_pos, gI_ne, gIv 104, e104, hN, i1, gIv 105, e105, hW, sM, gIv 106, e106, q2, gIv 107, e107]
          exact this
        · have := bad (by rw [cB]; exact decide_eq_false g1)
          simp (disch := omega) only [fX13_holds_4, qbI_s, qbL_s, qbV_s, qbR_s, qbR_n, qbN_s, qbN_n, qbIX_s, qbIX_n, qbVX_s, qbVX_n, cond_true, cond_false, cond_dec, jadd, jsub, jmul, jneg, li_0, li_1, li_2, li_3, li_4, li_5, li_6, li_7, li_8, li_9, li_10, li_14, li_15, li_16, li_19, li_20, li_24, li_30, li_31, li_32, li_39, li_40, li_48, li_57, li_59, li_60, li_63, li_65, li_80, li_81, li_90, li_97, li_99, li_100, li_122, li_126, li_127, li_150, li_160, li_200, li_225, li_255, li_400, li_799, li_800, li_999, li_2400, li_3239, li_3240, li_1048575, li_1431655765, li_858993459, li_252645135, eqb_j, ltb_j, leb_j, inb_j, ix_j, ix_n, nz_b, nz_0, nz_1, eqb_b, bnot, vI_ne, vI_eq, gIL, gLI, gIR, gRI, gLR, gRL, Int.reduceLT, Int.reduceLE, Int.reduceEq, Int.reduceAdd, Int.reduceSub, Int.reduceMul, Int.reduceNeg, Int.reduceToNat, Nat.reduceEqDiff, reduceIte, if_neg, if_pos, gI_ne, gIv 104, e104, hN, i1, gIv 105, e105, hW, sM, gIv 106, e106, q2, gIv 107, e107]
          exact this
      · rw [if_neg (by omega), if_pos q2] at cB
        by_cases g1 : F < Z
        · have := good (by rw [cB]; exact decide_eq_true g1)
          simp (disch := omega) only [fX13_holds_4, qbI_s, qbL_s, qbV_s, qbR_s, qbR_n, qbN_s, qbN_n, qbIX_s, qbIX_n, qbVX_s, qbVX_n, cond_true, cond_false, cond_dec, jadd, jsub, jmul, jneg, li_0, li_1, li_2, li_3, li_4, li_5, li_6, li_7, li_8, li_9, li_10, li_14, li_15, li_16, li_19, li_20, li_24, li_30, li_31, li_32, li_39, li_40, li_48, li_57, li_59, li_60, li_63, li_65, li_80, li_81, li_90, li_97, li_99, li_100, li_122, li_126, li_127, li_150, li_160, li_200, li_225, li_255, li_400, li_799, li_800, li_999, li_2400, li_3239, li_3240, li_1048575, li_1431655765, li_858993459, li_252645135, eqb_j, ltb_j, leb_j, inb_j, ix_j, ix_n, nz_b, nz_0, nz_1, eqb_b, bnot, vI_ne, vI_eq, gIL, gLI, gIR, gRI, gLR, gRL, Int.reduceLT, Int.reduceLE, Int.reduceEq, Int.reduceAdd, Int.reduceSub, Int.reduceMul, Int.reduceNeg, Int.reduceToNat, Nat.reduceEqDiff, reduceIte, if_neg, if_pos, gI_ne, gIv 104, e104, hN, i1, gIv 105, e105, hW, sM, gIv 106, e106, q2, gIv 107, e107]
          exact this
        · have := bad (by rw [cB]; exact decide_eq_false g1)
          simp (disch := omega) only [fX13_holds_4, qbI_s, qbL_s, qbV_s, qbR_s, qbR_n, qbN_s, qbN_n, qbIX_s, qbIX_n, qbVX_s, qbVX_n, cond_true, cond_false, cond_dec, jadd, jsub, jmul, jneg, li_0, li_1, li_2, li_3, li_4, li_5, li_6, li_7, li_8, li_9, li_10, li_14, li_15, li_16, li_19, li_20, li_24, li_30, li_31, li_32, li_39, li_40, li_48, li_57, li_59, li_60, li_63, li_65, li_80, li_81, li_90, li_97, li_99, li_100, li_122, li_126, li_127, li_150, li_160, li_200, li_225, li_255, li_400, li_799, li_800, li_999, li_2400, li_3239, li_3240, li_1048575, li_1431655765, li_858993459, li_252645135, eqb_j, ltb_j, leb_j, inb_j, ix_j, ix_n, nz_b, nz_0, nz_1, eqb_b, bnot, vI_ne, vI_eq, gIL, gLI, gIR, gRI, gLR, gRL, Int.reduceLT, Int.reduceLE, Int.reduceEq, Int.reduceAdd, Int.reduceSub, Int.reduceMul, Int.reduceNeg, Int.reduceToNat, Nat.reduceEqDiff, reduceIte, if_neg, if_pos, gI_ne, gIv 104, e104, hN, i1, gIv 105, e105, hW, sM, gIv 106, e106, q2, gIv 107, e107]
          exact this
      · rw [if_neg (by omega), if_neg (by omega)] at cB
        by_cases g1 : F = Z
        · have := good (by rw [cB]; exact decide_eq_true g1)
          simp (disch := omega) only [fX13_holds_4, qbI_s, qbL_s, qbV_s, qbR_s, qbR_n, qbN_s, qbN_n, qbIX_s, qbIX_n, qbVX_s, qbVX_n, cond_true, cond_false, cond_dec, jadd, jsub, jmul, jneg, li_0, li_1, li_2, li_3, li_4, li_5, li_6, li_7, li_8, li_9, li_10, li_14, li_15, li_16, li_19, li_20, li_24, li_30, li_31, li_32, li_39, li_40, li_48, li_57, li_59, li_60, li_63, li_65, li_80, li_81, li_90, li_97, li_99, li_100, li_122, li_126, li_127, li_150, li_160, li_200, li_225, li_255, li_400, li_799, li_800, li_999, li_2400, li_3239, li_3240, li_1048575, li_1431655765, li_858993459, li_252645135, eqb_j, ltb_j, leb_j, inb_j, ix_j, ix_n, nz_b, nz_0, nz_1, eqb_b, bnot, vI_ne, vI_eq, gIL, gLI, gIR, gRI, gLR, gRL, Int.reduceLT, Int.reduceLE, Int.reduceEq, Int.reduceAdd, Int.reduceSub, Int.reduceMul, Int.reduceNeg, Int.reduceToNat, Nat.reduceEqDiff, reduceIte, if_neg, if_pos, gI_ne, gIv 104, e104, hN, i1, gIv 105, e105, hW, sM, gIv 106, e106, q2, gIv 107, e107]
          exact this
        · have := bad (by rw [cB]; exact decide_eq_false g1)
          simp (disch := omega) only [fX13_holds_4, qbI_s, qbL_s, qbV_s, qbR_s, qbR_n, qbN_s, qbN_n, qbIX_s, qbIX_n, qbVX_s, qbVX_n, cond_true, cond_false, cond_dec, jadd, jsub, jmul, jneg, li_0, li_1, li_2, li_3, li_4, li_5, li_6, li_7, li_8, li_9, li_10, li_14, li_15, li_16, li_19, li_20, li_24, li_30, li_31, li_32, li_39, li_40, li_48, li_57, li_59, li_60, li_63, li_65, li_80, li_81, li_90, li_97, li_99, li_100, li_122, li_126, li_127, li_150, li_160, li_200, li_225, li_255, li_400, li_799, li_800, li_999, li_2400, li_3239, li_3240, li_1048575, li_1431655765, li_858993459, li_252645135, eqb_j, ltb_j, leb_j, inb_j, ix_j, ix_n, nz_b, nz_0, nz_1, eqb_b, bnot, vI_ne, vI_eq, gIL, gLI, gIR, gRI, gLR, gRL, Int.reduceLT, Int.reduceLE, Int.reduceEq, Int.reduceAdd, Int.reduceSub, Int.reduceMul, Int.reduceNeg, Int.reduceToNat, Nat.reduceEqDiff, reduceIte, if_neg, if_pos, gI_ne, gIv 104, e104, hN, i1, gIv 105, e105, hW, sM, gIv 106, e106, q2, gIv 107, e107]
          exact this
  have l0 := loop N 0 FU (by omega) (by rw [FU_d]; omega)
  have e0 : hoB d s a u L = pd (∀ i, 0 ≤ i → i < N → cdB d s a u (4 * L + i) = true) := by
    unfold hoB
    rw [hN, Bool.eq_iff_iff, pd_iff, pd_iff]
    exact ⟨fun h i _ h2 => h i (by omega), fun h j hj => h j (Nat.zero_le _) (by omega)⟩
  rw [fX13_holds_d, e0]
  simp (disch := omega) only [fX13_holds_0, qbI_s, qbL_s, qbV_s, qbR_s, qbR_n, qbN_s, qbN_n, qbIX_s, qbIX_n, qbVX_s, qbVX_n, cond_true, cond_false, cond_dec, jadd, jsub, jmul, jneg, li_0, li_1, li_2, li_3, li_4, li_5, li_6, li_7, li_8, li_9, li_10, li_14, li_15, li_16, li_19, li_20, li_24, li_30, li_31, li_32, li_39, li_40, li_48, li_57, li_59, li_60, li_63, li_65, li_80, li_81, li_90, li_97, li_99, li_100, li_122, li_126, li_127, li_150, li_160, li_200, li_225, li_255, li_400, li_799, li_800, li_999, li_2400, li_3239, li_3240, li_1048575, li_1431655765, li_858993459, li_252645135, eqb_j, ltb_j, leb_j, inb_j, ix_j, ix_n, nz_b, nz_0, nz_1, eqb_b, bnot, vI_ne, vI_eq, gIL, gLI, gIR, gRI, gLR, gRL, Int.reduceLT, Int.reduceLE, Int.reduceEq, Int.reduceAdd, Int.reduceSub, Int.reduceMul, Int.reduceNeg, Int.reduceToNat, Nat.reduceEqDiff, reduceIte, if_neg, if_pos, gI_ne]
  exact l0
/-- the first number of which something holds -/
def fhV (P : Nat → Bool) : Nat → Nat → Int
  | _, 0 => -1
  | i, r + 1 => if P i = true then (i : Int) else fhV P (i + 1) r
theorem fhV_r (P : Nat → Bool) : ∀ r i, fhV P i r = -1 ∨ ∃ j : Nat, fhV P i r = j ∧ i ≤ j ∧ j < i + r
  | 0, i => Or.inl rfl
  | r + 1, i => by
    unfold fhV
    split
    · exact Or.inr ⟨i, rfl, by omega, by omega⟩
    · rcases fhV_r P r (i + 1) with h | ⟨j, h1, h2, h3⟩
      · exact Or.inl h
      · exact Or.inr ⟨j, h1, by omega, by omega⟩
theorem look16 {d s : Nat → Nat → Int} {K : Nat} {v : qM} (hD : DOk d) (hS : SI d s) (h : MS d s K v) (a : Nat) (ha : opn d s a) (u : Int) (hu : 0 ≤ u ∧ u ≤ 799) (t : Nat) (ht : t < 10) (p : Nat) (hp : p < 4) (hP : PolD d p) (hf : d 108 t = p) (k55 : Int32 → Int32 → qM → Option (Unit × qM)) : ∀ (r i g : Nat), i + r = (d 101 p).toNat → r < g → fX13_look_16 k55 g (Zi t) (Zi u) (Zi a) (Zi i) v = if fhV (fun l => hoB d s a u (8 * p + l)) i r = -1 then k55 (Zi u) (Zi a) v else qbV (fX13_does (Zi (8 * (p : Int) + fhV (fun l => hoB d s a u (8 * p + l)) i r)) (Zi a) (Zi u) v) (fun m8 => some ((), m8)) := by
  have e108 := h.1 108 t (by unfold dE; omega)
  have e101 := h.1 101 p (by unfold dE; omega)
  have p1 := hP.1
  intro r
  induction r with
  | zero =>
    intro i g hi hg
    obtain ⟨g, rfl⟩ : ∃ g', g = g' + 1 := ⟨g - 1, by omega⟩
    rw [show fhV (fun l => hoB d s a u (8 * p + l)) i 0 = -1 from rfl, if_pos rfl]
    simp (disch := omega) only [fX13_look_16, qbI_s, qbL_s, qbV_s, qbR_s, qbR_n, qbN_s, qbN_n, qbIX_s, qbIX_n, qbVX_s, qbVX_n, cond_true, cond_false, cond_dec, jadd, jsub, jmul, jneg, li_0, li_1, li_2, li_3, li_4, li_5, li_6, li_7, li_8, li_9, li_10, li_14, li_15, li_16, li_19, li_20, li_24, li_30, li_31, li_32, li_39, li_40, li_48, li_57, li_59, li_60, li_63, li_65, li_80, li_81, li_90, li_97, li_99, li_100, li_122, li_126, li_127, li_150, li_160, li_200, li_225, li_255, li_400, li_799, li_800, li_999, li_2400, li_3239, li_3240, li_1048575, li_1431655765, li_858993459, li_252645135, eqb_j, ltb_j, leb_j, inb_j, ix_j, ix_n, nz_b, nz_0, nz_1, eqb_b, bnot, vI_ne, vI_eq, gIL, gLI, gIR, gRI, gLR, gRL, Int.reduceLT, Int.reduceLE, Int.reduceEq, Int.reduceAdd, Int.reduceSub, Int.reduceMul, Int.reduceNeg, Int.reduceToNat, Nat.reduceEqDiff, reduceIte, if_neg, if_pos, gI_ne, gIv 108, e108, hf, gIv 101, e101, show (-1 : Int32) = Zi (-1) from rfl]
  | succ r ih =>
    intro i g hi hg
    obtain ⟨g, rfl⟩ : ∃ g', g = g' + 1 := ⟨g - 1, by omega⟩
    have ih2 := ih (i + 1) g (by omega) (by omega)
    have hM := holdsM hD hS h a ha u hu p hp hP i (by omega)
    rw [show fhV (fun l => hoB d s a u (8 * p + l)) i (r + 1) = if hoB d s a u (8 * p + i) = true then (i : Int) else fhV (fun l => hoB d s a u (8 * p + l)) (i + 1) r from rfl]
    by_cases c : hoB d s a u (8 * p + i) = true
    · rw [if_pos c]
      rw [c] at hM
      rw [if_neg (by omega)]
      simp (disch := omega) only [fX13_look_16, qbI_s, qbL_s, qbV_s, qbR_s, qbR_n, qbN_s, qbN_n, qbIX_s, qbIX_n, qbVX_s, qbVX_n, cond_true, cond_false, cond_dec, jadd, jsub, jmul, jneg, li_0, li_1, li_2, li_3, li_4, li_5, li_6, li_7, li_8, li_9, li_10, li_14, li_15, li_16, li_19, li_20, li_24, li_30, li_31, li_32, li_39, li_40, li_48, li_57, li_59, li_60, li_63, li_65, li_80, li_81, li_90, li_97, li_99, li_100, li_122, li_126, li_127, li_150, li_160, li_200, li_225, li_255, li_400, li_799, li_800, li_999, li_2400, li_3239, li_3240, li_1048575, li_1431655765, li_858993459, li_252645135, eqb_j, ltb_j, leb_j, inb_j, ix_j, ix_n, nz_b, nz_0, nz_1, eqb_b, bnot, vI_ne, vI_eq, gIL, gLI, gIR, gRI, gLR, gRL, Int.reduceLT, Int.reduceLE, Int.reduceEq, Int.reduceAdd, Int.reduceSub, Int.reduceMul, Int.reduceNeg, Int.reduceToNat, Nat.reduceEqDiff, reduceIte, if_neg, if_pos, gI_ne, gIv 108, e108, hf, gIv 101, e101, hM, show bI true = 1 from rfl, show (-1 : Int32) = Zi (-1) from rfl]
    · rw [if_neg c]
      rw [Bool.not_eq_true] at c
      rw [c] at hM
      simp (disch := omega) only [fX13_look_16, qbI_s, qbL_s, qbV_s, qbR_s, qbR_n, qbN_s, qbN_n, qbIX_s, qbIX_n, qbVX_s, qbVX_n, cond_true, cond_false, cond_dec, jadd, jsub, jmul, jneg, li_0, li_1, li_2, li_3, li_4, li_5, li_6, li_7, li_8, li_9, li_10, li_14, li_15, li_16, li_19, li_20, li_24, li_30, li_31, li_32, li_39, li_40, li_48, li_57, li_59, li_60, li_63, li_65, li_80, li_81, li_90, li_97, li_99, li_100, li_122, li_126, li_127, li_150, li_160, li_200, li_225, li_255, li_400, li_799, li_800, li_999, li_2400, li_3239, li_3240, li_1048575, li_1431655765, li_858993459, li_252645135, eqb_j, ltb_j, leb_j, inb_j, ix_j, ix_n, nz_b, nz_0, nz_1, eqb_b, bnot, vI_ne, vI_eq, gIL, gLI, gIR, gRI, gLR, gRL, Int.reduceLT, Int.reduceLE, Int.reduceEq, Int.reduceAdd, Int.reduceSub, Int.reduceMul, Int.reduceNeg, Int.reduceToNat, Nat.reduceEqDiff, reduceIte, if_neg, if_pos, gI_ne, gIv 108, e108, hf, gIv 101, e101, hM, show bI false = 0 from rfl, show (-1 : Int32) = Zi (-1) from rfl]
      exact ih2
/-! the class's line that holds -/
theorem holdsC {m0 w : qM} {s : Nat → Nat → Int} {K : Nat} (hD : DOk (vI m0)) (h : CS m0 s K w) (a : Nat) (ha : opn (vI m0) s a) (u : Int) (hu : 0 ≤ u ∧ u ≤ 799) (h84 : ∀ k, k < 6 → vI w 84 k = factV (vI m0) s a u k) (q p : Nat) (hq : polC q) (hp : p < 4) (hP : RPolL m0 q p) (l : Nat) (hl : (l : Int) < vI m0 101 p) (j : Nat) (hj : (j : Int) < vI m0 104 (8 * p + l)) : fX5_holds q (Zi ((4 * l + j : Nat) : Int)) w = some (Zi (bI (cdB (vI m0) s a u (4 * (8 * p + l) + j))), w) := by
  obtain ⟨p1, p2, p3, p4⟩ := hP
  obtain ⟨c1, -, -, c4⟩ := p4 l hl
  obtain ⟨d1, d2, d3⟩ := c4 j hj
  have hq' := pol_q hq
  have i1 : ((4 * l + j : Nat) : Int).toNat = 4 * l + j := Int.toNat_natCast _
  have st : ∀ c k, c ≤ 46 → vI w c k = vI m0 c k := fun c k hc => h.1.v c k (by unfold evF; omega)
  obtain ⟨W, hW⟩ : ∃ W : Nat, vI m0 105 (4 * (8 * p + l) + j) = W := ⟨(vI m0 105 (4 * (8 * p + l) + j)).toNat, by omega⟩
  have f84 := h84 W (by omega)
  have fr := factV_r hD a ha u hu W
  have cB : cdB (vI m0) s a u (4 * (8 * p + l) + j) = if vI m0 106 (4 * (8 * p + l) + j) = 1 then decide (vI m0 107 (4 * (8 * p + l) + j) < factV (vI m0) s a u W) else if vI m0 106 (4 * (8 * p + l) + j) = -1 then decide (factV (vI m0) s a u W < vI m0 107 (4 * (8 * p + l) + j)) else decide (factV (vI m0) s a u W = vI m0 107 (4 * (8 * p + l) + j)) := by
    unfold cdB
    rw [hW, Int.toNat_natCast]
  generalize factV (vI m0) s a u W = F at *
  have v2 : vI w (q + 2) (4 * l + j) = W := by rw [st _ _ (by omega), d1.1, hW]
  have v4 : vI w (q + 4) (4 * l + j) = vI m0 107 (4 * (8 * p + l) + j) := by rw [st _ _ (by omega), d3.1]
  have v3 := st (q + 3) (4 * l + j) (by omega)
  obtain ⟨Z, hZ⟩ : ∃ Z, vI m0 107 (4 * (8 * p + l) + j) = Z := ⟨_, rfl⟩
  rw [hZ] at cB v4 d3
  have wi : ∀ x : qM, fX11_within (Zi W) (Zi 0) (Zi 5) x = some (Zi 1, x) := fun x => by
    rw [within_s _ _ _ (by omega), decide_eq_true (by omega)]
    rfl
  have n6 : Int32.ofNat 6 = Zi 6 := rfl
  rw [fX5_holds_d]
  show fX5_holds_0 q _ w = _
  rcases d2 with ⟨b1, b2⟩ | ⟨b1, b2⟩ | ⟨b1, b2⟩
  · rw [if_pos b2] at cB
    rw [b1] at v3
    by_cases g1 : Z < F
    · rw [cB, decide_eq_true g1]
      simp (disch := omega) only [fX5_holds_0, fX5_holds_19, fX5_holds_34, fX5_holds_60, qbI_s, qbL_s, qbV_s, qbR_s, qbR_n, qbN_s, qbN_n, qbIX_s, qbIX_n, qbVX_s, qbVX_n, cond_true, cond_false, cond_dec, jadd, jsub, jmul, jneg, li_0, li_1, li_2, li_3, li_4, li_5, li_6, li_7, li_8, li_9, li_10, li_14, li_15, li_16, li_19, li_20, li_24, li_30, li_31, li_32, li_39, li_40, li_48, li_57, li_59, li_60, li_63, li_65, li_80, li_81, li_90, li_97, li_99, li_100, li_122, li_126, li_127, li_150, li_160, li_200, li_225, li_255, li_400, li_799, li_800, li_999, li_2400, li_3239, li_3240, li_1048575, li_1431655765, li_858993459, li_252645135, eqb_j, ltb_j, leb_j, inb_j, ix_j, ix_n, nz_b, nz_0, nz_1, eqb_b, bnot, vI_ne, vI_eq, gIL, gLI, gIR, gRI, gLR, gRL, Int.reduceLT, Int.reduceLE, Int.reduceEq, Int.reduceAdd, Int.reduceSub, Int.reduceMul, Int.reduceNeg, Int.reduceToNat, Nat.reduceEqDiff, reduceIte, if_neg, if_pos, gI_ne, i1, gIv (q + 2), gIv (q + 3), gIv (q + 4), v2, v3, v4, n6, wi, gIv 84, f84, show bI true = 1 from rfl]
    · rw [cB, decide_eq_false g1]
      simp (disch := omega) only [fX5_holds_0, fX5_holds_19, fX5_holds_34, fX5_holds_60, qbI_s, qbL_s, qbV_s, qbR_s, qbR_n, qbN_s, qbN_n, qbIX_s, qbIX_n, qbVX_s, qbVX_n, cond_true, cond_false, cond_dec, jadd, jsub, jmul, jneg, li_0, li_1, li_2, li_3, li_4, li_5, li_6, li_7, li_8, li_9, li_10, li_14, li_15, li_16, li_19, li_20, li_24, li_30, li_31, li_32, li_39, li_40, li_48, li_57, li_59, li_60, li_63, li_65, li_80, li_81, li_90, li_97, li_99, li_100, li_122, li_126, li_127, li_150, li_160, li_200, li_225, li_255, li_400, li_799, li_800, li_999, li_2400, li_3239, li_3240, li_1048575, li_1431655765, li_858993459, li_252645135, eqb_j, ltb_j, leb_j, inb_j, ix_j, ix_n, nz_b, nz_0, nz_1, eqb_b, bnot, vI_ne, vI_eq, gIL, gLI, gIR, gRI, gLR, gRL, Int.reduceLT, Int.reduceLE, Int.reduceEq, Int.reduceAdd, Int.reduceSub, Int.reduceMul, Int.reduceNeg, Int.reduceToNat, Nat.reduceEqDiff, reduceIte, if_neg, if_pos, gI_ne, i1, gIv (q + 2), gIv (q + 3), gIv (q + 4), v2, v3, v4, n6, wi, gIv 84, f84, show bI false = 0 from rfl]
  · rw [if_neg (by omega), if_pos b2] at cB
    rw [b1] at v3
    by_cases g1 : F < Z
    · rw [cB, decide_eq_true g1]
      simp (disch := omega) only [fX5_holds_0, fX5_holds_19, fX5_holds_34, fX5_holds_60, qbI_s, qbL_s, qbV_s, qbR_s, qbR_n, qbN_s, qbN_n, qbIX_s, qbIX_n, qbVX_s, qbVX_n, cond_true, cond_false, cond_dec, jadd, jsub, jmul, jneg, li_0, li_1, li_2, li_3, li_4, li_5, li_6, li_7, li_8, li_9, li_10, li_14, li_15, li_16, li_19, li_20, li_24, li_30, li_31, li_32, li_39, li_40, li_48, li_57, li_59, li_60, li_63, li_65, li_80, li_81, li_90, li_97, li_99, li_100, li_122, li_126, li_127, li_150, li_160, li_200, li_225, li_255, li_400, li_799, li_800, li_999, li_2400, li_3239, li_3240, li_1048575, li_1431655765, li_858993459, li_252645135, eqb_j, ltb_j, leb_j, inb_j, ix_j, ix_n, nz_b, nz_0, nz_1, eqb_b, bnot, vI_ne, vI_eq, gIL, gLI, gIR, gRI, gLR, gRL, Int.reduceLT, Int.reduceLE, Int.reduceEq, Int.reduceAdd, Int.reduceSub, Int.reduceMul, Int.reduceNeg, Int.reduceToNat, Nat.reduceEqDiff, reduceIte, if_neg, if_pos, gI_ne, i1, gIv (q + 2), gIv (q + 3), gIv (q + 4), v2, v3, v4, n6, wi, gIv 84, f84, show bI true = 1 from rfl]
    · rw [cB, decide_eq_false g1]
      simp (disch := omega) only [fX5_holds_0, fX5_holds_19, fX5_holds_34, fX5_holds_60, qbI_s, qbL_s, qbV_s, qbR_s, qbR_n, qbN_s, qbN_n, qbIX_s, qbIX_n, qbVX_s, qbVX_n, cond_true, cond_false, cond_dec, jadd, jsub, jmul, jneg, li_0, li_1, li_2, li_3, li_4, li_5, li_6, li_7, li_8, li_9, li_10, li_14, li_15, li_16, li_19, li_20, li_24, li_30, li_31, li_32, li_39, li_40, li_48, li_57, li_59, li_60, li_63, li_65, li_80, li_81, li_90, li_97, li_99, li_100, li_122, li_126, li_127, li_150, li_160, li_200, li_225, li_255, li_400, li_799, li_800, li_999, li_2400, li_3239, li_3240, li_1048575, li_1431655765, li_858993459, li_252645135, eqb_j, ltb_j, leb_j, inb_j, ix_j, ix_n, nz_b, nz_0, nz_1, eqb_b, bnot, vI_ne, vI_eq, gIL, gLI, gIR, gRI, gLR, gRL, Int.reduceLT, Int.reduceLE, Int.reduceEq, Int.reduceAdd, Int.reduceSub, Int.reduceMul, Int.reduceNeg, Int.reduceToNat, Nat.reduceEqDiff, reduceIte, if_neg, if_pos, gI_ne, i1, gIv (q + 2), gIv (q + 3), gIv (q + 4), v2, v3, v4, n6, wi, gIv 84, f84, show bI false = 0 from rfl]
  · rw [if_neg (by omega), if_neg (by omega)] at cB
    rw [b1] at v3
    by_cases g1 : F = Z
    · rw [cB, decide_eq_true g1]
      simp (disch := omega) only [fX5_holds_0, fX5_holds_19, fX5_holds_34, fX5_holds_60, qbI_s, qbL_s, qbV_s, qbR_s, qbR_n, qbN_s, qbN_n, qbIX_s, qbIX_n, qbVX_s, qbVX_n, cond_true, cond_false, cond_dec, jadd, jsub, jmul, jneg, li_0, li_1, li_2, li_3, li_4, li_5, li_6, li_7, li_8, li_9, li_10, li_14, li_15, li_16, li_19, li_20, li_24, li_30, li_31, li_32, li_39, li_40, li_48, li_57, li_59, li_60, li_63, li_65, li_80, li_81, li_90, li_97, li_99, li_100, li_122, li_126, li_127, li_150, li_160, li_200, li_225, li_255, li_400, li_799, li_800, li_999, li_2400, li_3239, li_3240, li_1048575, li_1431655765, li_858993459, li_252645135, eqb_j, ltb_j, leb_j, inb_j, ix_j, ix_n, nz_b, nz_0, nz_1, eqb_b, bnot, vI_ne, vI_eq, gIL, gLI, gIR, gRI, gLR, gRL, Int.reduceLT, Int.reduceLE, Int.reduceEq, Int.reduceAdd, Int.reduceSub, Int.reduceMul, Int.reduceNeg, Int.reduceToNat, Nat.reduceEqDiff, reduceIte, if_neg, if_pos, gI_ne, i1, gIv (q + 2), gIv (q + 3), gIv (q + 4), v2, v3, v4, n6, wi, gIv 84, f84, show bI true = 1 from rfl]
    · rw [cB, decide_eq_false g1]
      simp (disch := omega) only [fX5_holds_0, fX5_holds_19, fX5_holds_34, fX5_holds_60, qbI_s, qbL_s, qbV_s, qbR_s, qbR_n, qbN_s, qbN_n, qbIX_s, qbIX_n, qbVX_s, qbVX_n, cond_true, cond_false, cond_dec, jadd, jsub, jmul, jneg, li_0, li_1, li_2, li_3, li_4, li_5, li_6, li_7, li_8, li_9, li_10, li_14, li_15, li_16, li_19, li_20, li_24, li_30, li_31, li_32, li_39, li_40, li_48, li_57, li_59, li_60, li_63, li_65, li_80, li_81, li_90, li_97, li_99, li_100, li_122, li_126, li_127, li_150, li_160, li_200, li_225, li_255, li_400, li_799, li_800, li_999, li_2400, li_3239, li_3240, li_1048575, li_1431655765, li_858993459, li_252645135, eqb_j, ltb_j, leb_j, inb_j, ix_j, ix_n, nz_b, nz_0, nz_1, eqb_b, bnot, vI_ne, vI_eq, gIL, gLI, gIR, gRI, gLR, gRL, Int.reduceLT, Int.reduceLE, Int.reduceEq, Int.reduceAdd, Int.reduceSub, Int.reduceMul, Int.reduceNeg, Int.reduceToNat, Nat.reduceEqDiff, reduceIte, if_neg, if_pos, gI_ne, i1, gIv (q + 2), gIv (q + 3), gIv (q + 4), v2, v3, v4, n6, wi, gIv 84, f84, show bI false = 0 from rfl]
theorem lineC {m0 w : qM} {s : Nat → Nat → Int} {K : Nat} (hD : DOk (vI m0)) (h : CS m0 s K w) (a : Nat) (ha : opn (vI m0) s a) (u : Int) (hu : 0 ≤ u ∧ u ≤ 799) (h84 : ∀ k, k < 6 → vI w 84 k = factV (vI m0) s a u k) (q p : Nat) (hq : polC q) (hp : p < 4) (hP : RPolL m0 q p) : fX5_lineThatHolds q w = some (Zi (fhV (fun l => hoB (vI m0) s a u (8 * p + l)) 0 (vI m0 101 p).toNat), w) := by
  have hP' := hP
  obtain ⟨p1, p2, p3, p4⟩ := hP'
  obtain ⟨hpol, q9, q40⟩ := pol_q hq
  have st : ∀ c k, c ≤ 46 → vI w c k = vI m0 c k := fun c k hc => h.1.v c k (by unfold evF; omega)
  have v6 : vI w q 6 = vI m0 101 p := by rw [st q 6 (by omega), p1]
  have inner : ∀ (k2 : Int32 → qM → Option (Int32 × qM)) (l : Nat), (l : Int) < vI m0 101 p → ∀ (r j g : Nat), j + r = (vI m0 104 (8 * p + l)).toNat → r < g → fX5_lineThatHolds_10 q (fX5_lineThatHolds_29 q k2) g (Zi l) (Zi 1) (Zi j) w = if pd (∀ i, j ≤ i → i < (vI m0 104 (8 * p + l)).toNat → cdB (vI m0) s a u (4 * (8 * p + l) + i) = true) = true then some (Zi l, w) else k2 (Zi ((l : Int) + 1)) w := by
    intro k2 l hl
    obtain ⟨c1, -, -, c4⟩ := p4 l hl
    have v1 : vI w (q + 1) l = vI m0 104 (8 * p + l) := by rw [st _ _ (by omega), c1.1]
    intro r
    induction r with
    | zero =>
      intro j g hj hg
      obtain ⟨g, rfl⟩ : ∃ g', g = g' + 1 := ⟨g - 1, by omega⟩
      rw [pd_t (fun i h1 h2 => by omega), if_pos rfl]
      simp (disch := omega) only [fX5_lineThatHolds_10, fX5_lineThatHolds_29, qbI_s, qbL_s, qbV_s, qbR_s, qbR_n, qbN_s, qbN_n, qbIX_s, qbIX_n, qbVX_s, qbVX_n, cond_true, cond_false, cond_dec, jadd, jsub, jmul, jneg, li_0, li_1, li_2, li_3, li_4, li_5, li_6, li_7, li_8, li_9, li_10, li_14, li_15, li_16, li_19, li_20, li_24, li_30, li_31, li_32, li_39, li_40, li_48, li_57, li_59, li_60, li_63, li_65, li_80, li_81, li_90, li_97, li_99, li_100, li_122, li_126, li_127, li_150, li_160, li_200, li_225, li_255, li_400, li_799, li_800, li_999, li_2400, li_3239, li_3240, li_1048575, li_1431655765, li_858993459, li_252645135, eqb_j, ltb_j, leb_j, inb_j, ix_j, ix_n, nz_b, nz_0, nz_1, eqb_b, bnot, vI_ne, vI_eq, gIL, gLI, gIR, gRI, gLR, gRL, Int.reduceLT, Int.reduceLE, Int.reduceEq, Int.reduceAdd, Int.reduceSub, Int.reduceMul, Int.reduceNeg, Int.reduceToNat, Nat.reduceEqDiff, reduceIte, if_neg, if_pos, gI_ne, gIv (q + 1), v1]
    | succ r ih =>
      intro j g hj hg
      obtain ⟨g, rfl⟩ : ∃ g', g = g' + 1 := ⟨g - 1, by omega⟩
      have ih2 := ih (j + 1) g (by omega) (by omega)
      have hc := holdsC hD h a ha u hu h84 q p hq hp hP l hl j (by omega)
      rw [show ((4 * l + j : Nat) : Int) = (l : Int) * 4 + j by omega] at hc
      rw [allStep (P := fun i => cdB (vI m0) s a u (4 * (8 * p + l) + i)) (by omega)]
      cases c : cdB (vI m0) s a u (4 * (8 * p + l) + j)
      · rw [c] at hc
        rw [Bool.false_and, if_neg (by decide)]
        obtain ⟨g, rfl⟩ : ∃ g', g = g' + 1 := ⟨g - 1, by omega⟩
        rw [fX5_lineThatHolds_10]
        simp (disch := omega) only [qbI_s, qbL_s, qbV_s, qbR_s, qbR_n, qbN_s, qbN_n, qbIX_s, qbIX_n, qbVX_s, qbVX_n, cond_true, cond_false, cond_dec, jadd, jsub, jmul, jneg, li_0, li_1, li_2, li_3, li_4, li_5, li_6, li_7, li_8, li_9, li_10, li_14, li_15, li_16, li_19, li_20, li_24, li_30, li_31, li_32, li_39, li_40, li_48, li_57, li_59, li_60, li_63, li_65, li_80, li_81, li_90, li_97, li_99, li_100, li_122, li_126, li_127, li_150, li_160, li_200, li_225, li_255, li_400, li_799, li_800, li_999, li_2400, li_3239, li_3240, li_1048575, li_1431655765, li_858993459, li_252645135, eqb_j, ltb_j, leb_j, inb_j, ix_j, ix_n, nz_b, nz_0, nz_1, eqb_b, bnot, vI_ne, vI_eq, gIL, gLI, gIR, gRI, gLR, gRL, Int.reduceLT, Int.reduceLE, Int.reduceEq, Int.reduceAdd, Int.reduceSub, Int.reduceMul, Int.reduceNeg, Int.reduceToNat, Nat.reduceEqDiff, reduceIte, if_neg, if_pos, gI_ne, gIv (q + 1), v1, hpol, hc, show bI false = 0 from rfl]
        simp (disch := omega) only [fX5_lineThatHolds_10, fX5_lineThatHolds_29, qbI_s, qbL_s, qbV_s, qbR_s, qbR_n, qbN_s, qbN_n, qbIX_s, qbIX_n, qbVX_s, qbVX_n, cond_true, cond_false, cond_dec, jadd, jsub, jmul, jneg, li_0, li_1, li_2, li_3, li_4, li_5, li_6, li_7, li_8, li_9, li_10, li_14, li_15, li_16, li_19, li_20, li_24, li_30, li_31, li_32, li_39, li_40, li_48, li_57, li_59, li_60, li_63, li_65, li_80, li_81, li_90, li_97, li_99, li_100, li_122, li_126, li_127, li_150, li_160, li_200, li_225, li_255, li_400, li_799, li_800, li_999, li_2400, li_3239, li_3240, li_1048575, li_1431655765, li_858993459, li_252645135, eqb_j, ltb_j, leb_j, inb_j, ix_j, ix_n, nz_b, nz_0, nz_1, eqb_b, bnot, vI_ne, vI_eq, gIL, gLI, gIR, gRI, gLR, gRL, Int.reduceLT, Int.reduceLE, Int.reduceEq, Int.reduceAdd, Int.reduceSub, Int.reduceMul, Int.reduceNeg, Int.reduceToNat, Nat.reduceEqDiff, reduceIte, if_neg, if_pos, gI_ne]
      · rw [c] at hc
        rw [Bool.true_and]
        rw [fX5_lineThatHolds_10]
        simp (disch := omega) only [qbI_s, qbL_s, qbV_s, qbR_s, qbR_n, qbN_s, qbN_n, qbIX_s, qbIX_n, qbVX_s, qbVX_n, cond_true, cond_false, cond_dec, jadd, jsub, jmul, jneg, li_0, li_1, li_2, li_3, li_4, li_5, li_6, li_7, li_8, li_9, li_10, li_14, li_15, li_16, li_19, li_20, li_24, li_30, li_31, li_32, li_39, li_40, li_48, li_57, li_59, li_60, li_63, li_65, li_80, li_81, li_90, li_97, li_99, li_100, li_122, li_126, li_127, li_150, li_160, li_200, li_225, li_255, li_400, li_799, li_800, li_999, li_2400, li_3239, li_3240, li_1048575, li_1431655765, li_858993459, li_252645135, eqb_j, ltb_j, leb_j, inb_j, ix_j, ix_n, nz_b, nz_0, nz_1, eqb_b, bnot, vI_ne, vI_eq, gIL, gLI, gIR, gRI, gLR, gRL, Int.reduceLT, Int.reduceLE, Int.reduceEq, Int.reduceAdd, Int.reduceSub, Int.reduceMul, Int.reduceNeg, Int.reduceToNat, Nat.reduceEqDiff, reduceIte, if_neg, if_pos, gI_ne, gIv (q + 1), v1, hpol, hc, show bI true = 1 from rfl]
        exact ih2
  have loop : ∀ (r i g : Nat), i + r = (vI m0 101 p).toNat → r < g → fX5_lineThatHolds_2 q g (Zi i) w = some (Zi (fhV (fun l => hoB (vI m0) s a u (8 * p + l)) i r), w) := by
    intro r
    induction r with
    | zero =>
      intro i g hi hg
      obtain ⟨g, rfl⟩ : ∃ g', g = g' + 1 := ⟨g - 1, by omega⟩
      simp (disch := omega) only [fX5_lineThatHolds_2, qbI_s, qbL_s, qbV_s, qbR_s, qbR_n, qbN_s, qbN_n, qbIX_s, qbIX_n, qbVX_s, qbVX_n, cond_true, cond_false, cond_dec, jadd, jsub, jmul, jneg, li_0, li_1, li_2, li_3, li_4, li_5, li_6, li_7, li_8, li_9, li_10, li_14, li_15, li_16, li_19, li_20, li_24, li_30, li_31, li_32, li_39, li_40, li_48, li_57, li_59, li_60, li_63, li_65, li_80, li_81, li_90, li_97, li_99, li_100, li_122, li_126, li_127, li_150, li_160, li_200, li_225, li_255, li_400, li_799, li_800, li_999, li_2400, li_3239, li_3240, li_1048575, li_1431655765, li_858993459, li_252645135, eqb_j, ltb_j, leb_j, inb_j, ix_j, ix_n, nz_b, nz_0, nz_1, eqb_b, bnot, vI_ne, vI_eq, gIL, gLI, gIR, gRI, gLR, gRL, Int.reduceLT, Int.reduceLE, Int.reduceEq, Int.reduceAdd, Int.reduceSub, Int.reduceMul, Int.reduceNeg, Int.reduceToNat, Nat.reduceEqDiff, reduceIte, if_neg, if_pos, gI_ne, gIv q, v6]
      rfl
    | succ r ih =>
      intro i g hi hg
      obtain ⟨g, rfl⟩ : ∃ g', g = g' + 1 := ⟨g - 1, by omega⟩
      have ih2 := ih (i + 1) g (by omega) (by omega)
      have c1 := (p4 i (by omega)).1
      have n := inner (fX5_lineThatHolds_2 q g) i (by omega) (vI m0 104 (8 * p + i)).toNat 0 FU (by omega) (by rw [FU_d]; omega)
      have e0 : hoB (vI m0) s a u (8 * p + i) = pd (∀ j, 0 ≤ j → j < (vI m0 104 (8 * p + i)).toNat → cdB (vI m0) s a u (4 * (8 * p + i) + j) = true) := by
        unfold hoB
        rw [Bool.eq_iff_iff, pd_iff, pd_iff]
        exact ⟨fun h i _ h2 => h i (by omega), fun h j hj => h j (Nat.zero_le _) (by omega)⟩
      rw [← e0] at n
      rw [show fhV (fun l => hoB (vI m0) s a u (8 * p + l)) i (r + 1) = if hoB (vI m0) s a u (8 * p + i) = true then (i : Int) else fhV (fun l => hoB (vI m0) s a u (8 * p + l)) (i + 1) r from rfl]
      simp (disch := omega) only [fX5_lineThatHolds_2, qbI_s, qbL_s, qbV_s, qbR_s, qbR_n, qbN_s, qbN_n, qbIX_s, qbIX_n, qbVX_s, qbVX_n, cond_true, cond_false, cond_dec, jadd, jsub, jmul, jneg, li_0, li_1, li_2, li_3, li_4, li_5, li_6, li_7, li_8, li_9, li_10, li_14, li_15, li_16, li_19, li_20, li_24, li_30, li_31, li_32, li_39, li_40, li_48, li_57, li_59, li_60, li_63, li_65, li_80, li_81, li_90, li_97, li_99, li_100, li_122, li_126, li_127, li_150, li_160, li_200, li_225, li_255, li_400, li_799, li_800, li_999, li_2400, li_3239, li_3240, li_1048575, li_1431655765, li_858993459, li_252645135, eqb_j, ltb_j, leb_j, inb_j, ix_j, ix_n, nz_b, nz_0, nz_1, eqb_b, bnot, vI_ne, vI_eq, gIL, gLI, gIR, gRI, gLR, gRL, Int.reduceLT, Int.reduceLE, Int.reduceEq, Int.reduceAdd, Int.reduceSub, Int.reduceMul, Int.reduceNeg, Int.reduceToNat, Nat.reduceEqDiff, reduceIte, if_neg, if_pos, gI_ne, gIv q, v6]
      refine n.trans ?_
      by_cases c : hoB (vI m0) s a u (8 * p + i) = true
      · rw [if_pos c, if_pos c]
      · rw [if_neg c, if_neg c]
        exact ih2
  rw [fX5_lineThatHolds_d]
  exact loop _ 0 FU (by omega) (by rw [FU_d]; omega)
