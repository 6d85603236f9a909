/-! counts -/
theorem ctMiss (P Q : Nat → Bool) : ∀ n, (∀ a, a < n → Q a = true → P a = true) → fb_ct (fun a => P a && !Q a) n + fb_ct Q n = fb_ct P n := by
  intro n
  induction n with
  | zero => intro _; rfl
  | succ n ih =>
    intro h
    have h1 := ih (fun a ha => h a (by omega))
    have h2 := h n (by omega)
    rw [fb_ct_succ, fb_ct_succ, fb_ct_succ]
    cases hP : P n
    · cases hQ : Q n
      · simp; omega
      · rw [h2 hQ] at hP; cases hP
    · cases hQ : Q n
      · simp; omega
      · simp; omega
/-- loops that count asks: the reference's -/
theorem cnt25 {v : qM} {d : Nat → Nat → Int} (hD : DOk d) (h98 : vI v 98 32 = d 98 32) (hv : ∀ a : Nat, (a : Int) < d 98 32 → vI v 125 a = d 125 a ∧ vI v 126 a = d 126 a) : fX13_count_25 FU (Zi 0) (Zi 0) v = some (Zi (fb_ct (fun a => decide (d 126 a = 1) && !(isLd d a && decide (d 126 a = 1))) (d 98 32).toNat), v) := by
  have n1 := hD.2.2.2.2.1
  have n2 := hD.2.2.2.2.2.1
  have loop : ∀ (r i g : Nat), i + r = (d 98 32).toNat → r < g → fX13_count_25 g (Zi (fb_ct (fun a => decide (d 126 a = 1) && !(isLd d a && decide (d 126 a = 1))) i)) (Zi i) v = some (Zi (fb_ct (fun a => decide (d 126 a = 1) && !(isLd d a && decide (d 126 a = 1))) (d 98 32).toNat), v) := by
    intro r
    induction r with
    | zero =>
      intro i g hi hg
      obtain ⟨g, rfl⟩ : ∃ g', g = g' + 1 := ⟨g - 1, by omega⟩
      rw [show i = (d 98 32).toNat by omega]
      simp (disch := omega) only [fX13_count_25, qbI_s, qbL_s, qbV_s, qbR_s, qbR_n, qbN_s, qbN_n, qbIX_s, qbIX_n, qbVX_s, qbVX_n, cond_true, cond_false, cond_dec, jadd, jsub, jmul, jneg, li_0, li_1, li_2, li_3, li_4, li_5, li_6, li_7, li_8, li_9, li_10, li_14, li_15, li_16, li_19, li_20, li_24, li_30, li_31, li_32, li_39, li_40, li_48, li_57, li_59, li_60, li_63, li_65, li_80, li_81, li_90, li_97, li_99, li_100, li_122, li_126, li_127, li_150, li_160, li_200, li_225, li_255, li_400, li_799, li_800, li_999, li_2400, li_3239, li_3240, li_1048575, li_1431655765, li_858993459, li_252645135, eqb_j, ltb_j, leb_j, inb_j, ix_j, ix_n, nz_b, nz_0, nz_1, eqb_b, bnot, vI_ne, vI_eq, gIL, gLI, gIR, gRI, gLR, gRL, Int.reduceLT, Int.reduceLE, Int.reduceEq, Int.reduceAdd, Int.reduceSub, Int.reduceMul, Int.reduceNeg, Int.reduceToNat, Nat.reduceEqDiff, reduceIte, if_neg, if_pos, gI_ne, gIv 98, h98]
    | succ r ih =>
      intro i g hi hg
      obtain ⟨g, rfl⟩ : ∃ g', g = g' + 1 := ⟨g - 1, by omega⟩
      have ih2 := ih (i + 1) g (by omega) (by omega)
      have hi' : (i : Int) < d 98 32 := by omega
      obtain ⟨e1, e2⟩ := hv i hi'
      obtain ⟨-, -, k3, k4⟩ := hD.2.2.2.2.2.2 i hi'
      have ct := fb_ct_le (fun a => decide (d 126 a = 1) && !(isLd d a && decide (d 126 a = 1))) i
      rw [fb_ct_succ] at ih2
      rcases k3 with g1 | g1
      · rw [if_neg (by rw [decide_eq_false (show ¬ d 126 i = 1 by omega)]; simp)] at ih2
        simp (disch := omega) only [fX13_count_25, fX13_count_43, fX13_count_44, qbI_s, qbL_s, qbV_s, qbR_s, qbR_n, qbN_s, qbN_n, qbIX_s, qbIX_n, qbVX_s, qbVX_n, cond_true, cond_false, cond_dec, jadd, jsub, jmul, jneg, li_0, li_1, li_2, li_3, li_4, li_5, li_6, li_7, li_8, li_9, li_10, li_14, li_15, li_16, li_19, li_20, li_24, li_30, li_31, li_32, li_39, li_40, li_48, li_57, li_59, li_60, li_63, li_65, li_80, li_81, li_90, li_97, li_99, li_100, li_122, li_126, li_127, li_150, li_160, li_200, li_225, li_255, li_400, li_799, li_800, li_999, li_2400, li_3239, li_3240, li_1048575, li_1431655765, li_858993459, li_252645135, eqb_j, ltb_j, leb_j, inb_j, ix_j, ix_n, nz_b, nz_0, nz_1, eqb_b, bnot, vI_ne, vI_eq, gIL, gLI, gIR, gRI, gLR, gRL, Int.reduceLT, Int.reduceLE, Int.reduceEq, Int.reduceAdd, Int.reduceSub, Int.reduceMul, Int.reduceNeg, Int.reduceToNat, Nat.reduceEqDiff, reduceIte, if_neg, if_pos, gI_ne, gIv 98, h98, gIv 126, e2, g1]
        rw [Int.add_zero]
        exact ih2
      · by_cases g2 : d 125 i = -1
        · rw [if_pos (by rw [decide_eq_true g1]; unfold isLd; rw [decide_eq_false (fun z => z g2)]; rfl)] at ih2
          simp (disch := omega) only [fX13_count_25, fX13_count_43, fX13_count_44, qbI_s, qbL_s, qbV_s, qbR_s, qbR_n, qbN_s, qbN_n, qbIX_s, qbIX_n, qbVX_s, qbVX_n, cond_true, cond_false, cond_dec, jadd, jsub, jmul, jneg, li_0, li_1, li_2, li_3, li_4, li_5, li_6, li_7, li_8, li_9, li_10, li_14, li_15, li_16, li_19, li_20, li_24, li_30, li_31, li_32, li_39, li_40, li_48, li_57, li_59, li_60, li_63, li_65, li_80, li_81, li_90, li_97, li_99, li_100, li_122, li_126, li_127, li_150, li_160, li_200, li_225, li_255, li_400, li_799, li_800, li_999, li_2400, li_3239, li_3240, li_1048575, li_1431655765, li_858993459, li_252645135, eqb_j, ltb_j, leb_j, inb_j, ix_j, ix_n, nz_b, nz_0, nz_1, eqb_b, bnot, vI_ne, vI_eq, gIL, gLI, gIR, gRI, gLR, gRL, Int.reduceLT, Int.reduceLE, Int.reduceEq, Int.reduceAdd, Int.reduceSub, Int.reduceMul, Int.reduceNeg, Int.reduceToNat, Nat.reduceEqDiff, reduceIte, if_neg, if_pos, gI_ne, gIv 98, h98, gIv 126, e2, g1, gIv 125, e1, g2, show (-1 : Int32) = Zi (-1) from rfl]
          exact ih2
        · rw [if_neg (by rw [decide_eq_true g1]; unfold isLd; rw [decide_eq_true g2]; decide)] at ih2
          simp (disch := omega) only [fX13_count_25, fX13_count_43, fX13_count_44, qbI_s, qbL_s, qbV_s, qbR_s, qbR_n, qbN_s, qbN_n, qbIX_s, qbIX_n, qbVX_s, qbVX_n, cond_true, cond_false, cond_dec, jadd, jsub, jmul, jneg, li_0, li_1, li_2, li_3, li_4, li_5, li_6, li_7, li_8, li_9, li_10, li_14, li_15, li_16, li_19, li_20, li_24, li_30, li_31, li_32, li_39, li_40, li_48, li_57, li_59, li_60, li_63, li_65, li_80, li_81, li_90, li_97, li_99, li_100, li_122, li_126, li_127, li_150, li_160, li_200, li_225, li_255, li_400, li_799, li_800, li_999, li_2400, li_3239, li_3240, li_1048575, li_1431655765, li_858993459, li_252645135, eqb_j, ltb_j, leb_j, inb_j, ix_j, ix_n, nz_b, nz_0, nz_1, eqb_b, bnot, vI_ne, vI_eq, gIL, gLI, gIR, gRI, gLR, gRL, Int.reduceLT, Int.reduceLE, Int.reduceEq, Int.reduceAdd, Int.reduceSub, Int.reduceMul, Int.reduceNeg, Int.reduceToNat, Nat.reduceEqDiff, reduceIte, if_neg, if_pos, gI_ne, gIv 98, h98, gIv 126, e2, g1, gIv 125, e1, show (-1 : Int32) = Zi (-1) from rfl]
          rw [Int.add_zero]
          exact ih2
  exact loop (d 98 32).toNat 0 FU (by omega) (by rw [FU_d]; omega)
theorem cnt132 {v : qM} {d : Nat → Nat → Int} (hD : DOk d) (h98 : vI v 98 32 = d 98 32) (hv : ∀ a, a < 40 → vI v 151 a = d 151 a ∧ 0 ≤ d 151 a) : fX13_count_132 FU (Zi 0) (Zi 0) v = some (Zi (fb_ct (fun a => decide (0 < d 151 a)) (d 98 32).toNat), v) := by
  have n1 := hD.2.2.2.2.1
  have n2 := hD.2.2.2.2.2.1
  have loop : ∀ (r i g : Nat), i + r = (d 98 32).toNat → r < g → fX13_count_132 g (Zi (fb_ct (fun a => decide (0 < d 151 a)) i)) (Zi i) v = some (Zi (fb_ct (fun a => decide (0 < d 151 a)) (d 98 32).toNat), v) := by
    intro r
    induction r with
    | zero =>
      intro i g hi hg
      obtain ⟨g, rfl⟩ : ∃ g', g = g' + 1 := ⟨g - 1, by omega⟩
      rw [show i = (d 98 32).toNat by omega]
      simp (disch := omega) only [fX13_count_132, qbI_s, qbL_s, qbV_s, qbR_s, qbR_n, qbN_s, qbN_n, qbIX_s, qbIX_n, qbVX_s, qbVX_n, cond_true, cond_false, cond_dec, jadd, jsub, jmul, jneg, li_0, li_1, li_2, li_3, li_4, li_5, li_6, li_7, li_8, li_9, li_10, li_14, li_15, li_16, li_19, li_20, li_24, li_30, li_31, li_32, li_39, li_40, li_48, li_57, li_59, li_60, li_63, li_65, li_80, li_81, li_90, li_97, li_99, li_100, li_122, li_126, li_127, li_150, li_160, li_200, li_225, li_255, li_400, li_799, li_800, li_999, li_2400, li_3239, li_3240, li_1048575, li_1431655765, li_858993459, li_252645135, eqb_j, ltb_j, leb_j, inb_j, ix_j, ix_n, nz_b, nz_0, nz_1, eqb_b, bnot, vI_ne, vI_eq, gIL, gLI, gIR, gRI, gLR, gRL, Int.reduceLT, Int.reduceLE, Int.reduceEq, Int.reduceAdd, Int.reduceSub, Int.reduceMul, Int.reduceNeg, Int.reduceToNat, Nat.reduceEqDiff, reduceIte, if_neg, if_pos, gI_ne, gIv 98, h98]
    | succ r ih =>
      intro i g hi hg
      obtain ⟨g, rfl⟩ : ∃ g', g = g' + 1 := ⟨g - 1, by omega⟩
      have ih2 := ih (i + 1) g (by omega) (by omega)
      have e1 := (hv i (by omega)).1
      have rv := vI_r v 151 i
      have ct := fb_ct_le (fun a => decide (0 < d 151 a)) i
      rw [fb_ct_succ] at ih2
      by_cases g2 : 0 < d 151 i
      · rw [if_pos (decide_eq_true g2)] at ih2
        simp (disch := omega) only [fX13_count_132, fX13_count_145, qbI_s, qbL_s, qbV_s, qbR_s, qbR_n, qbN_s, qbN_n, qbIX_s, qbIX_n, qbVX_s, qbVX_n, cond_true, cond_false, cond_dec, jadd, jsub, jmul, jneg, li_0, li_1, li_2, li_3, li_4, li_5, li_6, li_7, li_8, li_9, li_10, li_14, li_15, li_16, li_19, li_20, li_24, li_30, li_31, li_32, li_39, li_40, li_48, li_57, li_59, li_60, li_63, li_65, li_80, li_81, li_90, li_97, li_99, li_100, li_122, li_126, li_127, li_150, li_160, li_200, li_225, li_255, li_400, li_799, li_800, li_999, li_2400, li_3239, li_3240, li_1048575, li_1431655765, li_858993459, li_252645135, eqb_j, ltb_j, leb_j, inb_j, ix_j, ix_n, nz_b, nz_0, nz_1, eqb_b, bnot, vI_ne, vI_eq, gIL, gLI, gIR, gRI, gLR, gRL, Int.reduceLT, Int.reduceLE, Int.reduceEq, Int.reduceAdd, Int.reduceSub, Int.reduceMul, Int.reduceNeg, Int.reduceToNat, Nat.reduceEqDiff, reduceIte, if_neg, if_pos, gI_ne, gIv 98, h98, gIv 151]
        exact ih2
      · rw [if_neg (by rw [decide_eq_false g2]; decide)] at ih2
        simp (disch := omega) only [fX13_count_132, fX13_count_145, qbI_s, qbL_s, qbV_s, qbR_s, qbR_n, qbN_s, qbN_n, qbIX_s, qbIX_n, qbVX_s, qbVX_n, cond_true, cond_false, cond_dec, jadd, jsub, jmul, jneg, li_0, li_1, li_2, li_3, li_4, li_5, li_6, li_7, li_8, li_9, li_10, li_14, li_15, li_16, li_19, li_20, li_24, li_30, li_31, li_32, li_39, li_40, li_48, li_57, li_59, li_60, li_63, li_65, li_80, li_81, li_90, li_97, li_99, li_100, li_122, li_126, li_127, li_150, li_160, li_200, li_225, li_255, li_400, li_799, li_800, li_999, li_2400, li_3239, li_3240, li_1048575, li_1431655765, li_858993459, li_252645135, eqb_j, ltb_j, leb_j, inb_j, ix_j, ix_n, nz_b, nz_0, nz_1, eqb_b, bnot, vI_ne, vI_eq, gIL, gLI, gIR, gRI, gLR, gRL, Int.reduceLT, Int.reduceLE, Int.reduceEq, Int.reduceAdd, Int.reduceSub, Int.reduceMul, Int.reduceNeg, Int.reduceToNat, Nat.reduceEqDiff, reduceIte, if_neg, if_pos, gI_ne, gIv 98, h98, gIv 151]
        rw [Int.add_zero]
        exact ih2
  exact loop (d 98 32).toNat 0 FU (by omega) (by rw [FU_d]; omega)
def msB (d : Nat → Nat → Int) (S : Nat → Int) (a : Nat) : Bool := decide (d 125 a ≠ -1 ∧ S a = -1)
theorem missC {w : qM} (hR : R0 w) (K : Nat) (hK : K ≤ 80) (hS : ∀ a : Nat, (a : Int) < vI w 98 32 → -1 ≤ rwS w K a ∧ rwS w K a ≤ 799) : fX1_missed (Zi K) w = some (Zi (fb_ct (msB (vI w) (rwS w K)) (vI w 98 32).toNat), w) := by
  have hA := CAll.of hR
  have hD := DOk.of hA
  have n1 := hD.2.2.2.2.1
  have n2 := hD.2.2.2.2.2.1
  have e11 := hA.2.2.2.2.2.1.1
  have loop : ∀ (r i g : Nat), i + r = (vI w 98 32).toNat → r < g → fX1_missed_4 g (Zi K) (Zi (fb_ct (msB (vI w) (rwS w K)) i)) (Zi i) w = some (Zi (fb_ct (msB (vI w) (rwS w K)) (vI w 98 32).toNat), w) := by
    intro r
    induction r with
    | zero =>
      intro i g hi hg
      obtain ⟨g, rfl⟩ : ∃ g', g = g' + 1 := ⟨g - 1, by omega⟩
      rw [show i = (vI w 98 32).toNat by omega]
      simp (disch := omega) only [fX1_missed_4, fX4_asks_d, fX4_asks_0, qbI_s, qbL_s, qbV_s, qbR_s, qbR_n, qbN_s, qbN_n, qbIX_s, qbIX_n, qbVX_s, qbVX_n, cond_true, cond_false, cond_dec, jadd, jsub, jmul, jneg, li_0, li_1, li_2, li_3, li_4, li_5, li_6, li_7, li_8, li_9, li_10, li_14, li_15, li_16, li_19, li_20, li_24, li_30, li_31, li_32, li_39, li_40, li_48, li_57, li_59, li_60, li_63, li_65, li_80, li_81, li_90, li_97, li_99, li_100, li_122, li_126, li_127, li_150, li_160, li_200, li_225, li_255, li_400, li_799, li_800, li_999, li_2400, li_3239, li_3240, li_1048575, li_1431655765, li_858993459, li_252645135, eqb_j, ltb_j, leb_j, inb_j, ix_j, ix_n, nz_b, nz_0, nz_1, eqb_b, bnot, vI_ne, vI_eq, gIL, gLI, gIR, gRI, gLR, gRL, Int.reduceLT, Int.reduceLE, Int.reduceEq, Int.reduceAdd, Int.reduceSub, Int.reduceMul, Int.reduceNeg, Int.reduceToNat, Nat.reduceEqDiff, reduceIte, if_neg, if_pos, gI_ne, gIv 58, e11]
    | succ r ih =>
      intro i g hi hg
      obtain ⟨g, rfl⟩ : ∃ g', g = g' + 1 := ⟨g - 1, by omega⟩
      have ih2 := ih (i + 1) g (by omega) (by omega)
      have hi' : (i : Int) < vI w 98 32 := by omega
      have sO := startOf_s w K i hK (by omega)
      have hl := laidD w (vI w) hA.2.2.2.2.2.1 i hi'
      have sr := hS i hi'
      have ct := fb_ct_le (msB (vI w) (rwS w K)) i
      rw [fb_ct_succ] at ih2
      by_cases c0 : vI w 125 i = -1
      · rw [show isLd (vI w) i = false from decide_eq_false (fun z => z c0)] at hl
        rw [show msB (vI w) (rwS w K) i = false from decide_eq_false (fun z => z.1 c0), if_neg (by decide), Nat.add_zero] at ih2
        simp (disch := omega) only [fX1_missed_4, fX1_missed_21, fX4_asks_d, fX4_asks_0, qbI_s, qbL_s, qbV_s, qbR_s, qbR_n, qbN_s, qbN_n, qbIX_s, qbIX_n, qbVX_s, qbVX_n, cond_true, cond_false, cond_dec, jadd, jsub, jmul, jneg, li_0, li_1, li_2, li_3, li_4, li_5, li_6, li_7, li_8, li_9, li_10, li_14, li_15, li_16, li_19, li_20, li_24, li_30, li_31, li_32, li_39, li_40, li_48, li_57, li_59, li_60, li_63, li_65, li_80, li_81, li_90, li_97, li_99, li_100, li_122, li_126, li_127, li_150, li_160, li_200, li_225, li_255, li_400, li_799, li_800, li_999, li_2400, li_3239, li_3240, li_1048575, li_1431655765, li_858993459, li_252645135, eqb_j, ltb_j, leb_j, inb_j, ix_j, ix_n, nz_b, nz_0, nz_1, eqb_b, bnot, vI_ne, vI_eq, gIL, gLI, gIR, gRI, gLR, gRL, Int.reduceLT, Int.reduceLE, Int.reduceEq, Int.reduceAdd, Int.reduceSub, Int.reduceMul, Int.reduceNeg, Int.reduceToNat, Nat.reduceEqDiff, reduceIte, if_neg, if_pos, gI_ne, gIv 58, e11, hl, show bI false = 0 from rfl]
        exact ih2
      · rw [show isLd (vI w) i = true from decide_eq_true c0] at hl
        by_cases c1 : rwS w K i = -1
        · rw [show msB (vI w) (rwS w K) i = true from decide_eq_true ⟨c0, c1⟩, if_pos rfl] at ih2
          simp (disch := omega) only [fX1_missed_4, fX1_missed_21, fX4_asks_d, fX4_asks_0, qbI_s, qbL_s, qbV_s, qbR_s, qbR_n, qbN_s, qbN_n, qbIX_s, qbIX_n, qbVX_s, qbVX_n, cond_true, cond_false, cond_dec, jadd, jsub, jmul, jneg, li_0, li_1, li_2, li_3, li_4, li_5, li_6, li_7, li_8, li_9, li_10, li_14, li_15, li_16, li_19, li_20, li_24, li_30, li_31, li_32, li_39, li_40, li_48, li_57, li_59, li_60, li_63, li_65, li_80, li_81, li_90, li_97, li_99, li_100, li_122, li_126, li_127, li_150, li_160, li_200, li_225, li_255, li_400, li_799, li_800, li_999, li_2400, li_3239, li_3240, li_1048575, li_1431655765, li_858993459, li_252645135, eqb_j, ltb_j, leb_j, inb_j, ix_j, ix_n, nz_b, nz_0, nz_1, eqb_b, bnot, vI_ne, vI_eq, gIL, gLI, gIR, gRI, gLR, gRL, Int.reduceLT, Int.reduceLE, Int.reduceEq, Int.reduceAdd, Int.reduceSub, Int.reduceMul, Int.reduceNeg, Int.reduceToNat, Nat.reduceEqDiff, reduceIte, if_neg, if_pos, gI_ne, gIv 58, e11, hl, sO, c1, show bI true = 1 from rfl, show (-1 : Int32) = Zi (-1) from rfl]
          exact ih2
        · rw [show msB (vI w) (rwS w K) i = false from decide_eq_false (fun z => c1 z.2), if_neg (by decide), Nat.add_zero] at ih2
          simp (disch := omega) only [fX1_missed_4, fX1_missed_21, fX4_asks_d, fX4_asks_0, qbI_s, qbL_s, qbV_s, qbR_s, qbR_n, qbN_s, qbN_n, qbIX_s, qbIX_n, qbVX_s, qbVX_n, cond_true, cond_false, cond_dec, jadd, jsub, jmul, jneg, li_0, li_1, li_2, li_3, li_4, li_5, li_6, li_7, li_8, li_9, li_10, li_14, li_15, li_16, li_19, li_20, li_24, li_30, li_31, li_32, li_39, li_40, li_48, li_57, li_59, li_60, li_63, li_65, li_80, li_81, li_90, li_97, li_99, li_100, li_122, li_126, li_127, li_150, li_160, li_200, li_225, li_255, li_400, li_799, li_800, li_999, li_2400, li_3239, li_3240, li_1048575, li_1431655765, li_858993459, li_252645135, eqb_j, ltb_j, leb_j, inb_j, ix_j, ix_n, nz_b, nz_0, nz_1, eqb_b, bnot, vI_ne, vI_eq, gIL, gLI, gIR, gRI, gLR, gRL, Int.reduceLT, Int.reduceLE, Int.reduceEq, Int.reduceAdd, Int.reduceSub, Int.reduceMul, Int.reduceNeg, Int.reduceToNat, Nat.reduceEqDiff, reduceIte, if_neg, if_pos, gI_ne, gIv 58, e11, hl, sO, show bI true = 1 from rfl, show (-1 : Int32) = Zi (-1) from rfl]
          exact ih2
  rw [fX1_missed_d]
  exact loop (vI w 98 32).toNat 0 FU (by omega) (by rw [FU_d]; omega)
theorem cnt68 {v : qM} {d : Nat → Nat → Int} (hD : DOk d) (S : Nat → Int) (h98 : vI v 98 32 = d 98 32) (hb : vI v 98 33 = 1) (hv : ∀ a : Nat, (a : Int) < d 98 32 → vI v 149 a = if d 125 a ≠ -1 ∧ S a = -1 then 1 else 0) : fX13_count_68 fX13_count_88 FU (Zi 0) (Zi 0) v = some (Zi (fb_ct (msB d S) (d 98 32).toNat), v) := by
  have n1 := hD.2.2.2.2.1
  have n2 := hD.2.2.2.2.2.1
  have loop : ∀ (r i g : Nat), i + r = (d 98 32).toNat → r < g → fX13_count_68 fX13_count_88 g (Zi (fb_ct (msB d S) i)) (Zi i) v = some (Zi (fb_ct (msB d S) (d 98 32).toNat), v) := by
    intro r
    induction r with
    | zero =>
      intro i g hi hg
      obtain ⟨g, rfl⟩ : ∃ g', g = g' + 1 := ⟨g - 1, by omega⟩
      rw [show i = (d 98 32).toNat by omega]
      simp (disch := omega) only [fX13_count_68, fX13_count_88, qbI_s, qbL_s, qbV_s, qbR_s, qbR_n, qbN_s, qbN_n, qbIX_s, qbIX_n, qbVX_s, qbVX_n, cond_true, cond_false, cond_dec, jadd, jsub, jmul, jneg, li_0, li_1, li_2, li_3, li_4, li_5, li_6, li_7, li_8, li_9, li_10, li_14, li_15, li_16, li_19, li_20, li_24, li_30, li_31, li_32, li_39, li_40, li_48, li_57, li_59, li_60, li_63, li_65, li_80, li_81, li_90, li_97, li_99, li_100, li_122, li_126, li_127, li_150, li_160, li_200, li_225, li_255, li_400, li_799, li_800, li_999, li_2400, li_3239, li_3240, li_1048575, li_1431655765, li_858993459, li_252645135, eqb_j, ltb_j, leb_j, inb_j, ix_j, ix_n, nz_b, nz_0, nz_1, eqb_b, bnot, vI_ne, vI_eq, gIL, gLI, gIR, gRI, gLR, gRL, Int.reduceLT, Int.reduceLE, Int.reduceEq, Int.reduceAdd, Int.reduceSub, Int.reduceMul, Int.reduceNeg, Int.reduceToNat, Nat.reduceEqDiff, reduceIte, if_neg, if_pos, gI_ne, gIv 98, h98]
    | succ r ih =>
      intro i g hi hg
      obtain ⟨g, rfl⟩ : ∃ g', g = g' + 1 := ⟨g - 1, by omega⟩
      have ih2 := ih (i + 1) g (by omega) (by omega)
      have e1 := hv i (by omega)
      have ct := fb_ct_le (msB d S) i
      rw [fb_ct_succ] at ih2
      by_cases g2 : d 125 i ≠ -1 ∧ S i = -1
      · rw [if_pos g2] at e1
        rw [show msB d S i = true from decide_eq_true g2, if_pos rfl] at ih2
        simp (disch := omega) only [fX13_count_68, fX13_count_84, qbI_s, qbL_s, qbV_s, qbR_s, qbR_n, qbN_s, qbN_n, qbIX_s, qbIX_n, qbVX_s, qbVX_n, cond_true, cond_false, cond_dec, jadd, jsub, jmul, jneg, li_0, li_1, li_2, li_3, li_4, li_5, li_6, li_7, li_8, li_9, li_10, li_14, li_15, li_16, li_19, li_20, li_24, li_30, li_31, li_32, li_39, li_40, li_48, li_57, li_59, li_60, li_63, li_65, li_80, li_81, li_90, li_97, li_99, li_100, li_122, li_126, li_127, li_150, li_160, li_200, li_225, li_255, li_400, li_799, li_800, li_999, li_2400, li_3239, li_3240, li_1048575, li_1431655765, li_858993459, li_252645135, eqb_j, ltb_j, leb_j, inb_j, ix_j, ix_n, nz_b, nz_0, nz_1, eqb_b, bnot, vI_ne, vI_eq, gIL, gLI, gIR, gRI, gLR, gRL, Int.reduceLT, Int.reduceLE, Int.reduceEq, Int.reduceAdd, Int.reduceSub, Int.reduceMul, Int.reduceNeg, Int.reduceToNat, Nat.reduceEqDiff, reduceIte, if_neg, if_pos, gI_ne, gIv 98, h98, hb, gIv 149, e1]
        exact ih2
      · rw [if_neg g2] at e1
        rw [show msB d S i = false from decide_eq_false g2, if_neg (by decide)] at ih2
        simp (disch := omega) only [fX13_count_68, fX13_count_84, qbI_s, qbL_s, qbV_s, qbR_s, qbR_n, qbN_s, qbN_n, qbIX_s, qbIX_n, qbVX_s, qbVX_n, cond_true, cond_false, cond_dec, jadd, jsub, jmul, jneg, li_0, li_1, li_2, li_3, li_4, li_5, li_6, li_7, li_8, li_9, li_10, li_14, li_15, li_16, li_19, li_20, li_24, li_30, li_31, li_32, li_39, li_40, li_48, li_57, li_59, li_60, li_63, li_65, li_80, li_81, li_90, li_97, li_99, li_100, li_122, li_126, li_127, li_150, li_160, li_200, li_225, li_255, li_400, li_799, li_800, li_999, li_2400, li_3239, li_3240, li_1048575, li_1431655765, li_858993459, li_252645135, eqb_j, ltb_j, leb_j, inb_j, ix_j, ix_n, nz_b, nz_0, nz_1, eqb_b, bnot, vI_ne, vI_eq, gIL, gLI, gIR, gRI, gLR, gRL, Int.reduceLT, Int.reduceLE, Int.reduceEq, Int.reduceAdd, Int.reduceSub, Int.reduceMul, Int.reduceNeg, Int.reduceToNat, Nat.reduceEqDiff, reduceIte, if_neg, if_pos, gI_ne, gIv 98, h98, hb, gIv 149, e1]
        rw [Int.add_zero]
        exact ih2
  exact loop (d 98 32).toNat 0 FU (by omega) (by rw [FU_d]; omega)
/-- the last end -/
def leV (E : Nat → Int) : Nat → Int
  | 0 => 0
  | i + 1 => max (leV E i) (E i)
theorem leV_r {E : Nat → Int} {n : Nat} (h : ∀ a, a < n → -1 ≤ E a ∧ E a ≤ 900) : ∀ i, i ≤ n → 0 ≤ leV E i ∧ leV E i ≤ 900 := by
  intro i
  induction i with
  | zero => intro _; exact ⟨Int.le_refl _, by show (0 : Int) ≤ 900; omega⟩
  | succ i ih =>
    intro hi
    have h1 := ih (by omega)
    have h2 := h i (by omega)
    show 0 ≤ max (leV E i) (E i) ∧ max (leV E i) (E i) ≤ 900
    omega
theorem lastC {w : qM} (hR : R0 w) (K : Nat) (hK : K ≤ 80) (hE : ∀ a : Nat, (a : Int) < vI w 98 32 → -1 ≤ rwE w K a ∧ rwE w K a ≤ 900) : fX1_lastStop (Zi K) w = some (Zi (leV (rwE w K) (vI w 98 32).toNat), w) := by
  have hA := CAll.of hR
  have hD := DOk.of hA
  have n1 := hD.2.2.2.2.1
  have n2 := hD.2.2.2.2.2.1
  have e11 := hA.2.2.2.2.2.1.1
  have rr := leV_r (E := rwE w K) (n := (vI w 98 32).toNat) (fun a ha => hE a (by omega))
  have loop : ∀ (r i g : Nat), i + r = (vI w 98 32).toNat → r < g → fX1_lastStop_4 g (Zi K) (Zi (leV (rwE w K) i)) (Zi i) w = some (Zi (leV (rwE w K) (vI w 98 32).toNat), w) := by
    intro r
    induction r with
    | zero =>
      intro i g hi hg
      obtain ⟨g, rfl⟩ : ∃ g', g = g' + 1 := ⟨g - 1, by omega⟩
      rw [show i = (vI w 98 32).toNat by omega]
      simp (disch := omega) only [fX1_lastStop_4, fX4_asks_d, fX4_asks_0, qbI_s, qbL_s, qbV_s, qbR_s, qbR_n, qbN_s, qbN_n, qbIX_s, qbIX_n, qbVX_s, qbVX_n, cond_true, cond_false, cond_dec, jadd, jsub, jmul, jneg, li_0, li_1, li_2, li_3, li_4, li_5, li_6, li_7, li_8, li_9, li_10, li_14, li_15, li_16, li_19, li_20, li_24, li_30, li_31, li_32, li_39, li_40, li_48, li_57, li_59, li_60, li_63, li_65, li_80, li_81, li_90, li_97, li_99, li_100, li_122, li_126, li_127, li_150, li_160, li_200, li_225, li_255, li_400, li_799, li_800, li_999, li_2400, li_3239, li_3240, li_1048575, li_1431655765, li_858993459, li_252645135, eqb_j, ltb_j, leb_j, inb_j, ix_j, ix_n, nz_b, nz_0, nz_1, eqb_b, bnot, vI_ne, vI_eq, gIL, gLI, gIR, gRI, gLR, gRL, Int.reduceLT, Int.reduceLE, Int.reduceEq, Int.reduceAdd, Int.reduceSub, Int.reduceMul, Int.reduceNeg, Int.reduceToNat, Nat.reduceEqDiff, reduceIte, if_neg, if_pos, gI_ne, gIv 58, e11]
    | succ r ih =>
      intro i g hi hg
      obtain ⟨g, rfl⟩ : ∃ g', g = g' + 1 := ⟨g - 1, by omega⟩
      have ih2 := ih (i + 1) g (by omega) (by omega)
      have pO := stopOf_s w K i hK (by omega)
      have sr := hE i (by omega)
      have ri := rr i (by omega)
      simp (disch := omega) only [fX1_lastStop_4, fX4_asks_d, fX4_asks_0, qbI_s, qbL_s, qbV_s, qbR_s, qbR_n, qbN_s, qbN_n, qbIX_s, qbIX_n, qbVX_s, qbVX_n, cond_true, cond_false, cond_dec, jadd, jsub, jmul, jneg, li_0, li_1, li_2, li_3, li_4, li_5, li_6, li_7, li_8, li_9, li_10, li_14, li_15, li_16, li_19, li_20, li_24, li_30, li_31, li_32, li_39, li_40, li_48, li_57, li_59, li_60, li_63, li_65, li_80, li_81, li_90, li_97, li_99, li_100, li_122, li_126, li_127, li_150, li_160, li_200, li_225, li_255, li_400, li_799, li_800, li_999, li_2400, li_3239, li_3240, li_1048575, li_1431655765, li_858993459, li_252645135, eqb_j, ltb_j, leb_j, inb_j, ix_j, ix_n, nz_b, nz_0, nz_1, eqb_b, bnot, vI_ne, vI_eq, gIL, gLI, gIR, gRI, gLR, gRL, Int.reduceLT, Int.reduceLE, Int.reduceEq, Int.reduceAdd, Int.reduceSub, Int.reduceMul, Int.reduceNeg, Int.reduceToNat, Nat.reduceEqDiff, reduceIte, if_neg, if_pos, gI_ne, gIv 58, e11, pO, max_s]
      exact ih2
  rw [fX1_lastStop_d]
  exact loop (vI w 98 32).toNat 0 FU (by omega) (by rw [FU_d]; omega)
theorem cnt98 {v : qM} {d : Nat → Nat → Int} (hD : DOk d) (S E : Nat → Int) (h98 : vI v 98 32 = d 98 32) (hb : vI v 98 33 = 1) (hv : ∀ a : Nat, (a : Int) < d 98 32 → vI v 141 a = S a ∧ vI v 142 a = (if S a = -1 then 0 else E a - S a) ∧ (-1 ≤ S a ∧ S a ≤ 799) ∧ (-1 ≤ E a ∧ E a ≤ 900) ∧ (S a = -1 → E a = -1) ∧ (S a ≠ -1 → S a ≤ E a)) : fX13_count_98 fX13_count_125 FU (Zi 0) (Zi 0) v = some (Zi (leV E (d 98 32).toNat), v) := by
  have n1 := hD.2.2.2.2.1
  have n2 := hD.2.2.2.2.2.1
  have rr := leV_r (E := E) (n := (d 98 32).toNat) (fun a ha => (hv a (by omega)).2.2.2.1)
  have loop : ∀ (r i g : Nat), i + r = (d 98 32).toNat → r < g → fX13_count_98 fX13_count_125 g (Zi (leV E i)) (Zi i) v = some (Zi (leV E (d 98 32).toNat), v) := by
    intro r
    induction r with
    | zero =>
      intro i g hi hg
      obtain ⟨g, rfl⟩ : ∃ g', g = g' + 1 := ⟨g - 1, by omega⟩
      rw [show i = (d 98 32).toNat by omega]
      simp (disch := omega) only [fX13_count_98, fX13_count_125, qbI_s, qbL_s, qbV_s, qbR_s, qbR_n, qbN_s, qbN_n, qbIX_s, qbIX_n, qbVX_s, qbVX_n, cond_true, cond_false, cond_dec, jadd, jsub, jmul, jneg, li_0, li_1, li_2, li_3, li_4, li_5, li_6, li_7, li_8, li_9, li_10, li_14, li_15, li_16, li_19, li_20, li_24, li_30, li_31, li_32, li_39, li_40, li_48, li_57, li_59, li_60, li_63, li_65, li_80, li_81, li_90, li_97, li_99, li_100, li_122, li_126, li_127, li_150, li_160, li_200, li_225, li_255, li_400, li_799, li_800, li_999, li_2400, li_3239, li_3240, li_1048575, li_1431655765, li_858993459, li_252645135, eqb_j, ltb_j, leb_j, inb_j, ix_j, ix_n, nz_b, nz_0, nz_1, eqb_b, bnot, vI_ne, vI_eq, gIL, gLI, gIR, gRI, gLR, gRL, Int.reduceLT, Int.reduceLE, Int.reduceEq, Int.reduceAdd, Int.reduceSub, Int.reduceMul, Int.reduceNeg, Int.reduceToNat, Nat.reduceEqDiff, reduceIte, if_neg, if_pos, gI_ne, gIv 98, h98]
    | succ r ih =>
      intro i g hi hg
      obtain ⟨g, rfl⟩ : ∃ g', g = g' + 1 := ⟨g - 1, by omega⟩
      have ih2 := ih (i + 1) g (by omega) (by omega)
      obtain ⟨e1, e2, q1, q2, q3, q4⟩ := hv i (by omega)
      have ri := rr i (by omega)
      have st : leV E (i + 1) = max (leV E i) (E i) := rfl
      rw [st] at ih2
      by_cases g2 : S i = -1
      · rw [q3 g2, show max (leV E i) (-1) = leV E i by omega] at ih2
        simp (disch := omega) only [fX13_count_98, fX13_count_123, qbI_s, qbL_s, qbV_s, qbR_s, qbR_n, qbN_s, qbN_n, qbIX_s, qbIX_n, qbVX_s, qbVX_n, cond_true, cond_false, cond_dec, jadd, jsub, jmul, jneg, li_0, li_1, li_2, li_3, li_4, li_5, li_6, li_7, li_8, li_9, li_10, li_14, li_15, li_16, li_19, li_20, li_24, li_30, li_31, li_32, li_39, li_40, li_48, li_57, li_59, li_60, li_63, li_65, li_80, li_81, li_90, li_97, li_99, li_100, li_122, li_126, li_127, li_150, li_160, li_200, li_225, li_255, li_400, li_799, li_800, li_999, li_2400, li_3239, li_3240, li_1048575, li_1431655765, li_858993459, li_252645135, eqb_j, ltb_j, leb_j, inb_j, ix_j, ix_n, nz_b, nz_0, nz_1, eqb_b, bnot, vI_ne, vI_eq, gIL, gLI, gIR, gRI, gLR, gRL, Int.reduceLT, Int.reduceLE, Int.reduceEq, Int.reduceAdd, Int.reduceSub, Int.reduceMul, Int.reduceNeg, Int.reduceToNat, Nat.reduceEqDiff, reduceIte, if_neg, if_pos, gI_ne, gIv 98, h98, hb, gIv 141, e1, g2, show (-1 : Int32) = Zi (-1) from rfl]
        exact ih2
      · rw [if_neg g2] at e2
        have q5 := q4 g2
        rw [show max (leV E i) (E i) = max (leV E i) (S i + (E i - S i)) by rw [show S i + (E i - S i) = E i by omega]] at ih2
        simp (disch := omega) only [fX13_count_98, fX13_count_123, qbI_s, qbL_s, qbV_s, qbR_s, qbR_n, qbN_s, qbN_n, qbIX_s, qbIX_n, qbVX_s, qbVX_n, cond_true, cond_false, cond_dec, jadd, jsub, jmul, jneg, li_0, li_1, li_2, li_3, li_4, li_5, li_6, li_7, li_8, li_9, li_10, li_14, li_15, li_16, li_19, li_20, li_24, li_30, li_31, li_32, li_39, li_40, li_48, li_57, li_59, li_60, li_63, li_65, li_80, li_81, li_90, li_97, li_99, li_100, li_122, li_126, li_127, li_150, li_160, li_200, li_225, li_255, li_400, li_799, li_800, li_999, li_2400, li_3239, li_3240, li_1048575, li_1431655765, li_858993459, li_252645135, eqb_j, ltb_j, leb_j, inb_j, ix_j, ix_n, nz_b, nz_0, nz_1, eqb_b, bnot, vI_ne, vI_eq, gIL, gLI, gIR, gRI, gLR, gRL, Int.reduceLT, Int.reduceLE, Int.reduceEq, Int.reduceAdd, Int.reduceSub, Int.reduceMul, Int.reduceNeg, Int.reduceToNat, Nat.reduceEqDiff, reduceIte, if_neg, if_pos, gI_ne, gIv 98, h98, hb, gIv 141, e1, gIv 142, e2, max_s, show (-1 : Int32) = Zi (-1) from rfl]
        exact ih2
  exact loop (d 98 32).toNat 0 FU (by omega) (by rw [FU_d]; omega)
