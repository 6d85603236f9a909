/-! tokens: the reference's scan -/
theorem nV_r (d : Nat → Int) (f : Nat) : ∀ j, j ≤ 3 → (∀ i, i < j → 48 ≤ d (f + i) ∧ d (f + i) ≤ 57) → 0 ≤ nV d f j ∧ nV d f j ≤ 999 ∧ (j ≤ 2 → nV d f j ≤ 99) ∧ (j ≤ 1 → nV d f j ≤ 9)
  | 0, _, _ => ⟨Int.le_refl _, by simp only [nV]; omega, fun _ => by simp only [nV]; omega, fun _ => by simp only [nV]; omega⟩
  | 1, _, h => by
    have h0 := h 0 (by omega)
    simp only [nV]
    omega
  | 2, _, h => by
    have h0 := h 0 (by omega)
    have h1 := h 1 (by omega)
    simp only [nV]
    omega
  | 3, _, h => by
    have h0 := h 0 (by omega)
    have h1 := h 1 (by omega)
    have h2 := h 2 (by omega)
    simp only [nV]
    omega
  | j + 4, h, _ => by omega
section
variable {d : Nat → Int} {n : Nat}
theorem skipM {m : qM} {post : Unit → qM → Prop} (k24 : qM → Option (Unit × qM)) : ∀ (r k g : Nat) (w : qM), k + r = n → r < g → TM w d n → vI w 98 15 = k → Fr (fun c k => c = 98 ∧ k = 15) m w → (∀ w' : qM, TM w' d n → Fr (fun c k => c = 98 ∧ k = 15) m w' → vI w' 98 15 = mK (blkB d n) k r → wp (k24 w') post) → wp (fX13_scan_0 k24 g w) post := by
  intro r
  induction r with
  | zero =>
    intro k g w hk hg hT h2 hF kk
    obtain ⟨g, rfl⟩ : ∃ g', g = g' + 1 := ⟨g - 1, by omega⟩
    have nx := kk w hT hF h2
    have t1 := hT.1
    have hn := hT.2.1
    simp (disch := omega) only [fX13_scan_0, qbI_s, qbL_s, qbV_s, qbR_s, qbR_n, qbN_s, qbN_n, qbIX_s, qbIX_n, qbVX_s, qbVX_n, cond_true, cond_false, cond_dec, jadd, jsub, jmul, jneg, li_0, li_1, li_2, li_3, li_4, li_5, li_6, li_7, li_8, li_9, li_10, li_14, li_15, li_16, li_19, li_20, li_24, li_30, li_31, li_32, li_39, li_40, li_48, li_57, li_59, li_60, li_63, li_65, li_80, li_81, li_90, li_97, li_99, li_100, li_122, li_126, li_127, li_150, li_160, li_200, li_225, li_255, li_400, li_799, li_800, li_999, li_2400, li_3239, li_3240, li_1048575, li_1431655765, li_858993459, li_252645135, eqb_j, ltb_j, leb_j, inb_j, ix_j, ix_n, nz_b, nz_0, nz_1, eqb_b, bnot, vI_ne, vI_eq, gIL, gLI, gIR, gRI, gLR, gRL, Int.reduceLT, Int.reduceLE, Int.reduceEq, Int.reduceAdd, Int.reduceSub, Int.reduceMul, Int.reduceNeg, Int.reduceToNat, Nat.reduceEqDiff, reduceIte, if_neg, if_pos, gI_ne, gIv 98, t1, h2]
    exact nx
  | succ r ih =>
    intro k g w hk hg hT h2 hF kk
    obtain ⟨g, rfl⟩ : ∃ g', g = g' + 1 := ⟨g - 1, by omega⟩
    have hn := hT.2.1
    have t1 := hT.1
    have hr := (hT.2.2 k (by omega)).2
    have h1r := vI_r w 110 k
    have hdef : blkB d n k = (decide (d k = 32) || decide (d k = 10)) := by unfold blkB; rw [decide_eq_true (by omega), Bool.true_and]
    have nx2 : blkB d n k = true → wp (fX13_scan_0 k24 g (sI w 98 15 (Zi ((k : Int) + 1)))) post := fun c => ih (k + 1) g (sI w 98 15 (Zi ((k : Int) + 1))) (by omega) (by omega) (hT.mono fun c k hc => by rw [gI_sI, if_neg (by omega)]) (by rw [vI_eq (by omega), if_pos rfl]; omega) (hF.wI 98 15 _ ⟨rfl, rfl⟩) (by rw [mK_t c] at kk; exact kk)
    by_cases g1 : d k = 32
    · have nx := nx2 (by rw [hdef, decide_eq_true g1]; rfl)
      have e1 : vI w 110 k = 32 := by omega
      simp (disch := omega) only [fX13_scan_0, fX13_scan_19, qbI_s, qbL_s, qbV_s, qbR_s, qbR_n, qbN_s, qbN_n, qbIX_s, qbIX_n, qbVX_s, qbVX_n, cond_true, cond_false, cond_dec, jadd, jsub, jmul, jneg, li_0, li_1, li_2, li_3, li_4, li_5, li_6, li_7, li_8, li_9, li_10, li_14, li_15, li_16, li_19, li_20, li_24, li_30, li_31, li_32, li_39, li_40, li_48, li_57, li_59, li_60, li_63, li_65, li_80, li_81, li_90, li_97, li_99, li_100, li_122, li_126, li_127, li_150, li_160, li_200, li_225, li_255, li_400, li_799, li_800, li_999, li_2400, li_3239, li_3240, li_1048575, li_1431655765, li_858993459, li_252645135, eqb_j, ltb_j, leb_j, inb_j, ix_j, ix_n, nz_b, nz_0, nz_1, eqb_b, bnot, vI_ne, vI_eq, gIL, gLI, gIR, gRI, gLR, gRL, Int.reduceLT, Int.reduceLE, Int.reduceEq, Int.reduceAdd, Int.reduceSub, Int.reduceMul, Int.reduceNeg, Int.reduceToNat, Nat.reduceEqDiff, reduceIte, if_neg, if_pos, gI_ne, gIv 98, t1, h2, gIv 110, e1]
      exact nx
    · by_cases g2 : d k = 10
      · have nx := nx2 (by rw [hdef, decide_eq_true g2, Bool.or_true])
        have e1 : vI w 110 k = 10 := by omega
        simp (disch := omega) only [fX13_scan_0, fX13_scan_19, qbI_s, qbL_s, qbV_s, qbR_s, qbR_n, qbN_s, qbN_n, qbIX_s, qbIX_n, qbVX_s, qbVX_n, cond_true, cond_false, cond_dec, jadd, jsub, jmul, jneg, li_0, li_1, li_2, li_3, li_4, li_5, li_6, li_7, li_8, li_9, li_10, li_14, li_15, li_16, li_19, li_20, li_24, li_30, li_31, li_32, li_39, li_40, li_48, li_57, li_59, li_60, li_63, li_65, li_80, li_81, li_90, li_97, li_99, li_100, li_122, li_126, li_127, li_150, li_160, li_200, li_225, li_255, li_400, li_799, li_800, li_999, li_2400, li_3239, li_3240, li_1048575, li_1431655765, li_858993459, li_252645135, eqb_j, ltb_j, leb_j, inb_j, ix_j, ix_n, nz_b, nz_0, nz_1, eqb_b, bnot, vI_ne, vI_eq, gIL, gLI, gIR, gRI, gLR, gRL, Int.reduceLT, Int.reduceLE, Int.reduceEq, Int.reduceAdd, Int.reduceSub, Int.reduceMul, Int.reduceNeg, Int.reduceToNat, Nat.reduceEqDiff, reduceIte, if_neg, if_pos, gI_ne, gIv 98, t1, h2, gIv 110, e1]
        exact nx
      · have c : blkB d n k = false := by rw [hdef, decide_eq_false g1, decide_eq_false g2]; rfl
        rw [mK_f c] at kk
        have nx := kk w hT hF h2
        have e1 : ¬ vI w 110 k = 32 := by omega
        have e2 : ¬ vI w 110 k = 10 := by omega
        simp (disch := omega) only [fX13_scan_0, fX13_scan_19, qbI_s, qbL_s, qbV_s, qbR_s, qbR_n, qbN_s, qbN_n, qbIX_s, qbIX_n, qbVX_s, qbVX_n, cond_true, cond_false, cond_dec, jadd, jsub, jmul, jneg, li_0, li_1, li_2, li_3, li_4, li_5, li_6, li_7, li_8, li_9, li_10, li_14, li_15, li_16, li_19, li_20, li_24, li_30, li_31, li_32, li_39, li_40, li_48, li_57, li_59, li_60, li_63, li_65, li_80, li_81, li_90, li_97, li_99, li_100, li_122, li_126, li_127, li_150, li_160, li_200, li_225, li_255, li_400, li_799, li_800, li_999, li_2400, li_3239, li_3240, li_1048575, li_1431655765, li_858993459, li_252645135, eqb_j, ltb_j, leb_j, inb_j, ix_j, ix_n, nz_b, nz_0, nz_1, eqb_b, bnot, vI_ne, vI_eq, gIL, gLI, gIR, gRI, gLR, gRL, Int.reduceLT, Int.reduceLE, Int.reduceEq, Int.reduceAdd, Int.reduceSub, Int.reduceMul, Int.reduceNeg, Int.reduceToNat, Nat.reduceEqDiff, reduceIte, if_neg, if_pos, gI_ne, gIv 98, t1, h2, gIv 110]
        exact nx
theorem runM {m : qM} {post : Unit → qM → Prop} (k62 : qM → Option (Unit × qM)) : ∀ (r k g : Nat) (w : qM), k + r = n → r < g → TM w d n → vI w 98 15 = k → Fr (fun c k => c = 98 ∧ k = 15) m w → (∀ w' : qM, TM w' d n → Fr (fun c k => c = 98 ∧ k = 15) m w' → vI w' 98 15 = mK (smlB d n) k r → wp (k62 (sI w' 98 16 (Zi 1))) post) → wp (fX13_scan_47 k62 g w) post := by
  intro r
  induction r with
  | zero =>
    intro k g w hk hg hT h2 hF kk
    obtain ⟨g, rfl⟩ : ∃ g', g = g' + 1 := ⟨g - 1, by omega⟩
    have nx := kk w hT hF h2
    have hn := hT.2.1
    have hb := byM hT k (by omega)
    rw [if_neg (by omega)] at hb
    simp (disch := omega) only [fX13_scan_47, qbI_s, qbL_s, qbV_s, qbR_s, qbR_n, qbN_s, qbN_n, qbIX_s, qbIX_n, qbVX_s, qbVX_n, cond_true, cond_false, cond_dec, jadd, jsub, jmul, jneg, li_0, li_1, li_2, li_3, li_4, li_5, li_6, li_7, li_8, li_9, li_10, li_14, li_15, li_16, li_19, li_20, li_24, li_30, li_31, li_32, li_39, li_40, li_48, li_57, li_59, li_60, li_63, li_65, li_80, li_81, li_90, li_97, li_99, li_100, li_122, li_126, li_127, li_150, li_160, li_200, li_225, li_255, li_400, li_799, li_800, li_999, li_2400, li_3239, li_3240, li_1048575, li_1431655765, li_858993459, li_252645135, eqb_j, ltb_j, leb_j, inb_j, ix_j, ix_n, nz_b, nz_0, nz_1, eqb_b, bnot, vI_ne, vI_eq, gIL, gLI, gIR, gRI, gLR, gRL, Int.reduceLT, Int.reduceLE, Int.reduceEq, Int.reduceAdd, Int.reduceSub, Int.reduceMul, Int.reduceNeg, Int.reduceToNat, Nat.reduceEqDiff, reduceIte, if_neg, if_pos, gI_ne, gIv 98, h2, hb, isSmallM, Int.reduceLE, Int.reduceNeg, false_and, decide_false, show bI false = 0 from rfl]
    exact nx
  | succ r ih =>
    intro k g w hk hg hT h2 hF kk
    obtain ⟨g, rfl⟩ : ∃ g', g = g' + 1 := ⟨g - 1, by omega⟩
    have hn := hT.2.1
    have hb := byM hT k (by omega)
    rw [if_pos (by omega)] at hb
    have hr := hT.2.2 k (by omega)
    have hl := isSmallM (d k) (by omega) w
    have hdef : smlB d n k = decide (97 ≤ d k ∧ d k ≤ 122) := by unfold smlB; rw [decide_eq_true (show k < n by omega), Bool.true_and]
    rw [← hdef] at hl
    cases c : smlB d n k
    · rw [c] at hl
      rw [mK_f c] at kk
      have nx := kk w hT hF h2
      simp (disch := omega) only [fX13_scan_47, qbI_s, qbL_s, qbV_s, qbR_s, qbR_n, qbN_s, qbN_n, qbIX_s, qbIX_n, qbVX_s, qbVX_n, cond_true, cond_false, cond_dec, jadd, jsub, jmul, jneg, li_0, li_1, li_2, li_3, li_4, li_5, li_6, li_7, li_8, li_9, li_10, li_14, li_15, li_16, li_19, li_20, li_24, li_30, li_31, li_32, li_39, li_40, li_48, li_57, li_59, li_60, li_63, li_65, li_80, li_81, li_90, li_97, li_99, li_100, li_122, li_126, li_127, li_150, li_160, li_200, li_225, li_255, li_400, li_799, li_800, li_999, li_2400, li_3239, li_3240, li_1048575, li_1431655765, li_858993459, li_252645135, eqb_j, ltb_j, leb_j, inb_j, ix_j, ix_n, nz_b, nz_0, nz_1, eqb_b, bnot, vI_ne, vI_eq, gIL, gLI, gIR, gRI, gLR, gRL, Int.reduceLT, Int.reduceLE, Int.reduceEq, Int.reduceAdd, Int.reduceSub, Int.reduceMul, Int.reduceNeg, Int.reduceToNat, Nat.reduceEqDiff, reduceIte, if_neg, if_pos, gI_ne, gIv 98, h2, hb, hl, show bI false = 0 from rfl]
      exact nx
    · rw [c] at hl
      rw [mK_t c] at kk
      have nx := ih (k + 1) g (sI w 98 15 (Zi ((k : Int) + 1))) (by omega) (by omega) (hT.mono fun c k hc => by rw [gI_sI, if_neg (by omega)]) (by rw [vI_eq (by omega), if_pos rfl]; omega) (hF.wI 98 15 _ ⟨rfl, rfl⟩) kk
      simp (disch := omega) only [fX13_scan_47, qbI_s, qbL_s, qbV_s, qbR_s, qbR_n, qbN_s, qbN_n, qbIX_s, qbIX_n, qbVX_s, qbVX_n, cond_true, cond_false, cond_dec, jadd, jsub, jmul, jneg, li_0, li_1, li_2, li_3, li_4, li_5, li_6, li_7, li_8, li_9, li_10, li_14, li_15, li_16, li_19, li_20, li_24, li_30, li_31, li_32, li_39, li_40, li_48, li_57, li_59, li_60, li_63, li_65, li_80, li_81, li_90, li_97, li_99, li_100, li_122, li_126, li_127, li_150, li_160, li_200, li_225, li_255, li_400, li_799, li_800, li_999, li_2400, li_3239, li_3240, li_1048575, li_1431655765, li_858993459, li_252645135, eqb_j, ltb_j, leb_j, inb_j, ix_j, ix_n, nz_b, nz_0, nz_1, eqb_b, bnot, vI_ne, vI_eq, gIL, gLI, gIR, gRI, gLR, gRL, Int.reduceLT, Int.reduceLE, Int.reduceEq, Int.reduceAdd, Int.reduceSub, Int.reduceMul, Int.reduceNeg, Int.reduceToNat, Nat.reduceEqDiff, reduceIte, if_neg, if_pos, gI_ne, gIv 98, h2, hb, hl, show bI true = 1 from rfl]
      exact nx
theorem digM {m : qM} {post : Unit → qM → Prop} (k114 : Int32 → qM → Option (Unit × qM)) (f : Nat) : ∀ (r k g : Nat) (w : qM), k + r = n → r < g → TM w d n → vI w 98 14 = f → vI w 98 15 = k → f ≤ k → (∀ i, f ≤ i → i < k → 48 ≤ d i ∧ d i ≤ 57) → vI w 98 17 = nV d f (min 3 (k - f)) → Fr (fun c k => c = 98 ∧ 15 ≤ k ∧ k ≤ 17) m w → (∀ w' : qM, TM w' d n → Fr (fun c k => c = 98 ∧ 15 ≤ k ∧ k ≤ 17) m w' → vI w' 98 15 = mK (dgtB d n) k r → vI w' 98 17 = nV d f (min 3 (mK (dgtB d n) k r - f)) → wp (k114 (Zi (if mK (dgtB d n) k r - f ≤ 3 then 2 else 4)) w') post) → wp (fX13_scan_70 k114 g w) post := by
  intro r
  have stop : ∀ (r k g : Nat) (w : qM), k + r = n → TM w d n → vI w 98 14 = f → vI w 98 15 = k → f ≤ k → vI w 98 17 = nV d f (min 3 (k - f)) → Fr (fun c k => c = 98 ∧ 15 ≤ k ∧ k ≤ 17) m w → fX13_isDigit (Zi (if k < n then d k else 0)) w = some (Zi 0, w) → mK (dgtB d n) k r = k → (∀ w' : qM, TM w' d n → Fr (fun c k => c = 98 ∧ 15 ≤ k ∧ k ≤ 17) m w' → vI w' 98 15 = mK (dgtB d n) k r → vI w' 98 17 = nV d f (min 3 (mK (dgtB d n) k r - f)) → wp (k114 (Zi (if mK (dgtB d n) k r - f ≤ 3 then 2 else 4)) w') post) → wp (fX13_scan_70 k114 (g + 1) w) post := by
    intro r k g w hk hT h14 h2 hfk h17 hF hd hm kk
    rw [hm] at kk
    have nx := kk w hT hF h2 h17
    have hn := hT.2.1
    have hb := byM hT k (by omega)
    by_cases g3 : k - f ≤ 3
    · rw [if_pos g3] at nx
      simp (disch := omega) only [fX13_scan_70, qbI_s, qbL_s, qbV_s, qbR_s, qbR_n, qbN_s, qbN_n, qbIX_s, qbIX_n, qbVX_s, qbVX_n, cond_true, cond_false, cond_dec, jadd, jsub, jmul, jneg, li_0, li_1, li_2, li_3, li_4, li_5, li_6, li_7, li_8, li_9, li_10, li_14, li_15, li_16, li_19, li_20, li_24, li_30, li_31, li_32, li_39, li_40, li_48, li_57, li_59, li_60, li_63, li_65, li_80, li_81, li_90, li_97, li_99, li_100, li_122, li_126, li_127, li_150, li_160, li_200, li_225, li_255, li_400, li_799, li_800, li_999, li_2400, li_3239, li_3240, li_1048575, li_1431655765, li_858993459, li_252645135, eqb_j, ltb_j, leb_j, inb_j, ix_j, ix_n, nz_b, nz_0, nz_1, eqb_b, bnot, vI_ne, vI_eq, gIL, gLI, gIR, gRI, gLR, gRL, Int.reduceLT, Int.reduceLE, Int.reduceEq, Int.reduceAdd, Int.reduceSub, Int.reduceMul, Int.reduceNeg, Int.reduceToNat, Nat.reduceEqDiff, reduceIte, if_neg, if_pos, gI_ne, gIv 98, h2, h14, hb, hd]
      exact nx
    · rw [if_neg g3] at nx
      simp (disch := omega) only [fX13_scan_70, qbI_s, qbL_s, qbV_s, qbR_s, qbR_n, qbN_s, qbN_n, qbIX_s, qbIX_n, qbVX_s, qbVX_n, cond_true, cond_false, cond_dec, jadd, jsub, jmul, jneg, li_0, li_1, li_2, li_3, li_4, li_5, li_6, li_7, li_8, li_9, li_10, li_14, li_15, li_16, li_19, li_20, li_24, li_30, li_31, li_32, li_39, li_40, li_48, li_57, li_59, li_60, li_63, li_65, li_80, li_81, li_90, li_97, li_99, li_100, li_122, li_126, li_127, li_150, li_160, li_200, li_225, li_255, li_400, li_799, li_800, li_999, li_2400, li_3239, li_3240, li_1048575, li_1431655765, li_858993459, li_252645135, eqb_j, ltb_j, leb_j, inb_j, ix_j, ix_n, nz_b, nz_0, nz_1, eqb_b, bnot, vI_ne, vI_eq, gIL, gLI, gIR, gRI, gLR, gRL, Int.reduceLT, Int.reduceLE, Int.reduceEq, Int.reduceAdd, Int.reduceSub, Int.reduceMul, Int.reduceNeg, Int.reduceToNat, Nat.reduceEqDiff, reduceIte, if_neg, if_pos, gI_ne, gIv 98, h2, h14, hb, hd]
      exact nx
  induction r with
  | zero =>
    intro k g w hk hg hT h14 h2 hfk hdg h17 hF kk
    obtain ⟨g, rfl⟩ : ∃ g', g = g' + 1 := ⟨g - 1, by omega⟩
    refine stop 0 k g w hk hT h14 h2 hfk h17 hF ?_ rfl kk
    rw [if_neg (by omega), dgM 0 (by omega)]
    rfl
  | succ r ih =>
    intro k g w hk hg hT h14 h2 hfk hdg h17 hF kk
    obtain ⟨g, rfl⟩ : ∃ g', g = g' + 1 := ⟨g - 1, by omega⟩
    have hn := hT.2.1
    have hb := byM hT k (by omega)
    rw [if_pos (by omega)] at hb
    have hr := hT.2.2 k (by omega)
    have hl := dgM (d k) (by omega) w
    have hdef : dgtB d n k = decide (48 ≤ d k ∧ d k ≤ 57) := by unfold dgtB; rw [decide_eq_true (show k < n by omega), Bool.true_and]
    rw [← hdef] at hl
    cases c : dgtB d n k
    · rw [c] at hl
      refine stop (r + 1) k g w hk hT h14 h2 hfk h17 hF ?_ (mK_f c) kk
      rw [if_pos (by omega), hl]
      rfl
    · rw [c] at hl
      rw [hdef] at c
      have hck := of_decide_eq_true c
      rw [mK_t (by rw [hdef]; exact c)] at kk
      have hdg2 : ∀ i, f ≤ i → i < k + 1 → 48 ≤ d i ∧ d i ≤ 57 := fun i h1 h2 => by
        by_cases e : i = k
        · rw [e]; exact hck
        · exact hdg i h1 (by omega)
      by_cases g3 : 3 ≤ k - f
      · have nx := ih (k + 1) g (sI w 98 15 (Zi ((k : Int) + 1))) (by omega) (by omega) (hT.mono fun c k hc => by rw [gI_sI, if_neg (by omega)]) (by rw [vI_nk (by omega), h14]) (by rw [vI_eq (by omega), if_pos rfl]; omega) (by omega) hdg2 (by rw [vI_nk (by omega), h17, show min 3 (k - f) = min 3 (k + 1 - f) by omega]) (hF.wI 98 15 _ (by omega)) kk
        simp (disch := omega) only [fX13_scan_70, fX13_scan_96, qbI_s, qbL_s, qbV_s, qbR_s, qbR_n, qbN_s, qbN_n, qbIX_s, qbIX_n, qbVX_s, qbVX_n, cond_true, cond_false, cond_dec, jadd, jsub, jmul, jneg, li_0, li_1, li_2, li_3, li_4, li_5, li_6, li_7, li_8, li_9, li_10, li_14, li_15, li_16, li_19, li_20, li_24, li_30, li_31, li_32, li_39, li_40, li_48, li_57, li_59, li_60, li_63, li_65, li_80, li_81, li_90, li_97, li_99, li_100, li_122, li_126, li_127, li_150, li_160, li_200, li_225, li_255, li_400, li_799, li_800, li_999, li_2400, li_3239, li_3240, li_1048575, li_1431655765, li_858993459, li_252645135, eqb_j, ltb_j, leb_j, inb_j, ix_j, ix_n, nz_b, nz_0, nz_1, eqb_b, bnot, vI_ne, vI_eq, gIL, gLI, gIR, gRI, gLR, gRL, Int.reduceLT, Int.reduceLE, Int.reduceEq, Int.reduceAdd, Int.reduceSub, Int.reduceMul, Int.reduceNeg, Int.reduceToNat, Nat.reduceEqDiff, reduceIte, if_neg, if_pos, gI_ne, gIv 98, h2, h14, hb, hl, show bI true = 1 from rfl]
        exact nx
      · have e3 : min 3 (k - f) = k - f := by omega
        rw [e3] at h17
        have hnr := nV_r d f (k - f) (by omega) (fun i hi => hdg (f + i) (by omega) (by omega))
        have e4 : nV d f (k + 1 - f) = 10 * nV d f (k - f) + d k - 48 := by
          rw [show k + 1 - f = (k - f) + 1 by omega, nV, show f + (k - f) = k by omega]
        have nx := ih (k + 1) g (sI (sI w 98 17 (Zi (10 * nV d f (k - f) + d k - 48))) 98 15 (Zi ((k : Int) + 1))) (by omega) (by omega) (hT.mono fun c k hc => by rw [gI_sI, if_neg (by omega), gI_sI, if_neg (by omega)]) (by rw [vI_nk (by omega), vI_nk (by omega), h14]) (by rw [vI_eq (by omega), if_pos rfl]; omega) (by omega) hdg2 (by rw [vI_nk (by omega), vI_eq (by omega), if_pos rfl, show min 3 (k + 1 - f) = k + 1 - f by omega, e4]) ((hF.wI 98 17 _ (by omega)).wI 98 15 _ (by omega)) kk
        have v15 : vI (sI w 98 17 (Zi (10 * nV d f (k - f) + d k - 48))) 98 15 = k := by rw [vI_nk (by omega), h2]
        simp (disch := omega) only [fX13_scan_70, fX13_scan_96, qbI_s, qbL_s, qbV_s, qbR_s, qbR_n, qbN_s, qbN_n, qbIX_s, qbIX_n, qbVX_s, qbVX_n, cond_true, cond_false, cond_dec, jadd, jsub, jmul, jneg, li_0, li_1, li_2, li_3, li_4, li_5, li_6, li_7, li_8, li_9, li_10, li_14, li_15, li_16, li_19, li_20, li_24, li_30, li_31, li_32, li_39, li_40, li_48, li_57, li_59, li_60, li_63, li_65, li_80, li_81, li_90, li_97, li_99, li_100, li_122, li_126, li_127, li_150, li_160, li_200, li_225, li_255, li_400, li_799, li_800, li_999, li_2400, li_3239, li_3240, li_1048575, li_1431655765, li_858993459, li_252645135, eqb_j, ltb_j, leb_j, inb_j, ix_j, ix_n, nz_b, nz_0, nz_1, eqb_b, bnot, vI_ne, vI_eq, gIL, gLI, gIR, gRI, gLR, gRL, Int.reduceLT, Int.reduceLE, Int.reduceEq, Int.reduceAdd, Int.reduceSub, Int.reduceMul, Int.reduceNeg, Int.reduceToNat, Nat.reduceEqDiff, reduceIte, if_neg, if_pos, gI_ne, gIv 98, h2, h14, h17, hb, hl, v15, show bI true = 1 from rfl]
        exact nx
end
theorem scan_s (m : qM) (d : Nat → Int) (n : Nat) (hT : TM m d n) (p : Nat) (hp : vI m 98 15 = p) (hpn : p ≤ n) : wp (fX13_scan m) (fun _ m' => Fr (fun c k => c = 98 ∧ 14 ≤ k ∧ k ≤ 17) m m' ∧ vI m' 98 14 = tF d n p ∧ vI m' 98 15 = tU d n (tF d n p) ∧ vI m' 98 16 = tK d n (tF d n p) ∧ (tK d n (tF d n p) = 2 → vI m' 98 17 = nV d (tF d n p) (tU d n (tF d n p) - tF d n p))) := by
  have hn := hT.2.1
  have t1 := hT.1
  obtain ⟨f1, f2⟩ := tF_r d n p hpn
  rw [fX13_scan_d]
  refine skipM (m := m) _ (n - p) p FU m (by omega) (by rw [FU_d]; omega) hT hp (Fr.rf _) fun w hTw hFw hw => ?_
  change vI w 98 15 = (tF d n p : Nat) at hw
  generalize tF d n p = f at *
  have F0 : Fr (fun c k => c = 98 ∧ 14 ≤ k ∧ k ≤ 17) m w := hFw.wide fun c k hc => by omega
  have hT9 : TM (sI w 98 14 (Zi f)) d n := hTw.mono fun c k hc => by rw [gI_sI, if_neg (by omega)]
  have hb := byM hT9 f (by omega)
  have t9 := hT9.1
  have F9 : Fr (fun c k => c = 98 ∧ 14 ≤ k ∧ k ≤ 17) m (sI w 98 14 (Zi f)) := F0.wI 98 14 _ (by omega)
  have v2 : vI (sI w 98 14 (Zi f)) 98 14 = f := by rw [vI_eq (by omega), if_pos rfl]
  have v3 : vI (sI w 98 14 (Zi f)) 98 15 = f := by rw [vI_nk (by omega), hw]
  have u0 : fX13_scan_26 w = fX13_scan_26 w := rfl
  by_cases g0 : n ≤ f
  · rw [if_neg (by omega)] at hb
    have tk : tK d n f = 0 := by rw [tK, if_pos g0]
    refine wp_e (x := ()) (m := sI (sI w 98 14 (Zi f)) 98 16 (Zi 0)) ?_ ⟨F9.wI 98 16 _ (by omega), by rw [vI_nk (by omega), v2], by rw [vI_nk (by omega), v3, tU, if_pos g0], by rw [vI_eq (by omega), if_pos rfl, tk], fun z => by omega⟩
    simp (disch := omega) only [fX13_scan_26, fX13_scan_130, qbI_s, qbL_s, qbV_s, qbR_s, qbR_n, qbN_s, qbN_n, qbIX_s, qbIX_n, qbVX_s, qbVX_n, cond_true, cond_false, cond_dec, jadd, jsub, jmul, jneg, li_0, li_1, li_2, li_3, li_4, li_5, li_6, li_7, li_8, li_9, li_10, li_14, li_15, li_16, li_19, li_20, li_24, li_30, li_31, li_32, li_39, li_40, li_48, li_57, li_59, li_60, li_63, li_65, li_80, li_81, li_90, li_97, li_99, li_100, li_122, li_126, li_127, li_150, li_160, li_200, li_225, li_255, li_400, li_799, li_800, li_999, li_2400, li_3239, li_3240, li_1048575, li_1431655765, li_858993459, li_252645135, eqb_j, ltb_j, leb_j, inb_j, ix_j, ix_n, nz_b, nz_0, nz_1, eqb_b, bnot, vI_ne, vI_eq, gIL, gLI, gIR, gRI, gLR, gRL, Int.reduceLT, Int.reduceLE, Int.reduceEq, Int.reduceAdd, Int.reduceSub, Int.reduceMul, Int.reduceNeg, Int.reduceToNat, Nat.reduceEqDiff, reduceIte, if_neg, if_pos, gI_ne, gIv 98, hw, v2, t9, hb]
  · rw [if_pos (by omega)] at hb
    have hr := hT.2.2 f (by omega)
    by_cases g1 : 97 ≤ d f ∧ d f ≤ 122
    · have c1 : smlB d n f = true := by unfold smlB; rw [decide_eq_true (show f < n by omega), decide_eq_true g1]; rfl
      have tk : tK d n f = 1 := by rw [tK, if_neg g0, if_pos c1]
      have nx : wp (fX13_scan_47 fX13_scan_130 FU (sI w 98 14 (Zi f))) (fun _ m' => Fr (fun c k => c = 98 ∧ 14 ≤ k ∧ k ≤ 17) m m' ∧ vI m' 98 14 = f ∧ vI m' 98 15 = tU d n f ∧ vI m' 98 16 = tK d n f ∧ (tK d n f = 2 → vI m' 98 17 = nV d f (tU d n f - f))) := by
        refine runM (d := d) (n := n) (m := sI w 98 14 (Zi f)) _ (n - f) f FU _ (by omega) (by rw [FU_d]; omega) hT9 v3 (Fr.rf _) fun u hTu hFu hu => ?_
        refine wp_e (x := ()) (m := sI u 98 16 (Zi 1)) ?_ ⟨(F9.tr (hFu.wide fun c k hc => by omega)).wI 98 16 _ (by omega), by rw [vI_nk (by omega), hFu.v 98 14 (by omega), v2], by rw [vI_nk (by omega), hu, tU, if_neg g0, if_pos c1], by rw [vI_eq (by omega), if_pos rfl, tk], fun z => by omega⟩
        simp (disch := omega) only [fX13_scan_130, qbI_s, qbL_s, qbV_s, qbR_s, qbR_n, qbN_s, qbN_n, qbIX_s, qbIX_n, qbVX_s, qbVX_n, cond_true, cond_false, cond_dec, jadd, jsub, jmul, jneg, li_0, li_1, li_2, li_3, li_4, li_5, li_6, li_7, li_8, li_9, li_10, li_14, li_15, li_16, li_19, li_20, li_24, li_30, li_31, li_32, li_39, li_40, li_48, li_57, li_59, li_60, li_63, li_65, li_80, li_81, li_90, li_97, li_99, li_100, li_122, li_126, li_127, li_150, li_160, li_200, li_225, li_255, li_400, li_799, li_800, li_999, li_2400, li_3239, li_3240, li_1048575, li_1431655765, li_858993459, li_252645135, eqb_j, ltb_j, leb_j, inb_j, ix_j, ix_n, nz_b, nz_0, nz_1, eqb_b, bnot, vI_ne, vI_eq, gIL, gLI, gIR, gRI, gLR, gRL, Int.reduceLT, Int.reduceLE, Int.reduceEq, Int.reduceAdd, Int.reduceSub, Int.reduceMul, Int.reduceNeg, Int.reduceToNat, Nat.reduceEqDiff, reduceIte, if_neg, if_pos, gI_ne]
      have hs := isSmallM (d f) (by omega) (sI w 98 14 (Zi f))
      rw [decide_eq_true g1] at hs
      simp (disch := omega) only [fX13_scan_26, qbI_s, qbL_s, qbV_s, qbR_s, qbR_n, qbN_s, qbN_n, qbIX_s, qbIX_n, qbVX_s, qbVX_n, cond_true, cond_false, cond_dec, jadd, jsub, jmul, jneg, li_0, li_1, li_2, li_3, li_4, li_5, li_6, li_7, li_8, li_9, li_10, li_14, li_15, li_16, li_19, li_20, li_24, li_30, li_31, li_32, li_39, li_40, li_48, li_57, li_59, li_60, li_63, li_65, li_80, li_81, li_90, li_97, li_99, li_100, li_122, li_126, li_127, li_150, li_160, li_200, li_225, li_255, li_400, li_799, li_800, li_999, li_2400, li_3239, li_3240, li_1048575, li_1431655765, li_858993459, li_252645135, eqb_j, ltb_j, leb_j, inb_j, ix_j, ix_n, nz_b, nz_0, nz_1, eqb_b, bnot, vI_ne, vI_eq, gIL, gLI, gIR, gRI, gLR, gRL, Int.reduceLT, Int.reduceLE, Int.reduceEq, Int.reduceAdd, Int.reduceSub, Int.reduceMul, Int.reduceNeg, Int.reduceToNat, Nat.reduceEqDiff, reduceIte, if_neg, if_pos, gI_ne, gIv 98, hw, v2, t9, hb, hs, show bI true = 1 from rfl]
      exact nx
    · have c1 : ¬ smlB d n f = true := by unfold smlB; rw [decide_eq_false g1, Bool.and_false]; decide
      have hs := isSmallM (d f) (by omega) (sI w 98 14 (Zi f))
      rw [decide_eq_false g1] at hs
      have hd := dgM (d f) (by omega) (sI w 98 14 (Zi f))
      by_cases g2 : 48 ≤ d f ∧ d f ≤ 57
      · rw [decide_eq_true g2] at hd
        have c2 : dgtB d n f = true := by unfold dgtB; rw [decide_eq_true (show f < n by omega), decide_eq_true g2]; rfl
        have tu : tU d n f = mK (dgtB d n) f (n - f) := by rw [tU, if_neg g0, if_neg c1, if_pos c2]
        have t4 : tK d n f = if tU d n f - f ≤ 3 then 2 else 4 := by rw [tK, if_neg g0, if_neg c1, if_pos c2]
        have nx : wp (fX13_scan_70 fX13_scan_114 FU (sI (sI w 98 14 (Zi f)) 98 17 (Zi 0))) (fun _ m' => Fr (fun c k => c = 98 ∧ 14 ≤ k ∧ k ≤ 17) m m' ∧ vI m' 98 14 = f ∧ vI m' 98 15 = tU d n f ∧ vI m' 98 16 = tK d n f ∧ (tK d n f = 2 → vI m' 98 17 = nV d f (tU d n f - f))) := by
          refine digM (d := d) (n := n) (m := sI (sI w 98 14 (Zi f)) 98 17 (Zi 0)) _ f (n - f) f FU _ (by omega) (by rw [FU_d]; omega) (hT9.mono fun c k hc => by rw [gI_sI, if_neg (by omega)]) (by rw [vI_nk (by omega), v2]) (by rw [vI_nk (by omega), v3]) (Nat.le_refl _) (fun i h1 h2 => by omega) (by rw [vI_eq (by omega), if_pos rfl, Nat.sub_self]; rfl) (Fr.rf _) fun u hTu hFu hu hv => ?_
          rw [← tu] at hu hv
          rw [← tu]
          have Fu : Fr (fun c k => c = 98 ∧ 14 ≤ k ∧ k ≤ 17) m u := (F9.wI 98 17 _ (by omega)).tr (hFu.wide fun c k hc => by omega)
          have u2 : vI u 98 14 = f := by rw [hFu.v 98 14 (by omega), vI_nk (by omega), v2]
          by_cases g3 : tU d n f - f ≤ 3
          · rw [if_pos g3] at t4 ⊢
            refine wp_e (x := ()) (m := sI u 98 16 (Zi 2)) ?_ ⟨Fu.wI 98 16 _ (by omega), by rw [vI_nk (by omega), u2], by rw [vI_nk (by omega), hu], by rw [vI_eq (by omega), if_pos rfl, t4], fun _ => by rw [vI_nk (by omega), hv, show min 3 (tU d n f - f) = tU d n f - f by omega]⟩
            simp (disch := omega) only [fX13_scan_114, fX13_scan_130, qbI_s, qbL_s, qbV_s, qbR_s, qbR_n, qbN_s, qbN_n, qbIX_s, qbIX_n, qbVX_s, qbVX_n, cond_true, cond_false, cond_dec, jadd, jsub, jmul, jneg, li_0, li_1, li_2, li_3, li_4, li_5, li_6, li_7, li_8, li_9, li_10, li_14, li_15, li_16, li_19, li_20, li_24, li_30, li_31, li_32, li_39, li_40, li_48, li_57, li_59, li_60, li_63, li_65, li_80, li_81, li_90, li_97, li_99, li_100, li_122, li_126, li_127, li_150, li_160, li_200, li_225, li_255, li_400, li_799, li_800, li_999, li_2400, li_3239, li_3240, li_1048575, li_1431655765, li_858993459, li_252645135, eqb_j, ltb_j, leb_j, inb_j, ix_j, ix_n, nz_b, nz_0, nz_1, eqb_b, bnot, vI_ne, vI_eq, gIL, gLI, gIR, gRI, gLR, gRL, Int.reduceLT, Int.reduceLE, Int.reduceEq, Int.reduceAdd, Int.reduceSub, Int.reduceMul, Int.reduceNeg, Int.reduceToNat, Nat.reduceEqDiff, reduceIte, if_neg, if_pos, gI_ne]
          · rw [if_neg g3] at t4 ⊢
            refine wp_e (x := ()) (m := sI u 98 16 (Zi 4)) ?_ ⟨Fu.wI 98 16 _ (by omega), by rw [vI_nk (by omega), u2], by rw [vI_nk (by omega), hu], by rw [vI_eq (by omega), if_pos rfl, t4], fun z => by omega⟩
            simp (disch := omega) only [fX13_scan_114, fX13_scan_130, qbI_s, qbL_s, qbV_s, qbR_s, qbR_n, qbN_s, qbN_n, qbIX_s, qbIX_n, qbVX_s, qbVX_n, cond_true, cond_false, cond_dec, jadd, jsub, jmul, jneg, li_0, li_1, li_2, li_3, li_4, li_5, li_6, li_7, li_8, li_9, li_10, li_14, li_15, li_16, li_19, li_20, li_24, li_30, li_31, li_32, li_39, li_40, li_48, li_57, li_59, li_60, li_63, li_65, li_80, li_81, li_90, li_97, li_99, li_100, li_122, li_126, li_127, li_150, li_160, li_200, li_225, li_255, li_400, li_799, li_800, li_999, li_2400, li_3239, li_3240, li_1048575, li_1431655765, li_858993459, li_252645135, eqb_j, ltb_j, leb_j, inb_j, ix_j, ix_n, nz_b, nz_0, nz_1, eqb_b, bnot, vI_ne, vI_eq, gIL, gLI, gIR, gRI, gLR, gRL, Int.reduceLT, Int.reduceLE, Int.reduceEq, Int.reduceAdd, Int.reduceSub, Int.reduceMul, Int.reduceNeg, Int.reduceToNat, Nat.reduceEqDiff, reduceIte, if_neg, if_pos, gI_ne]
        simp (disch := omega) only [fX13_scan_26, qbI_s, qbL_s, qbV_s, qbR_s, qbR_n, qbN_s, qbN_n, qbIX_s, qbIX_n, qbVX_s, qbVX_n, cond_true, cond_false, cond_dec, jadd, jsub, jmul, jneg, li_0, li_1, li_2, li_3, li_4, li_5, li_6, li_7, li_8, li_9, li_10, li_14, li_15, li_16, li_19, li_20, li_24, li_30, li_31, li_32, li_39, li_40, li_48, li_57, li_59, li_60, li_63, li_65, li_80, li_81, li_90, li_97, li_99, li_100, li_122, li_126, li_127, li_150, li_160, li_200, li_225, li_255, li_400, li_799, li_800, li_999, li_2400, li_3239, li_3240, li_1048575, li_1431655765, li_858993459, li_252645135, eqb_j, ltb_j, leb_j, inb_j, ix_j, ix_n, nz_b, nz_0, nz_1, eqb_b, bnot, vI_ne, vI_eq, gIL, gLI, gIR, gRI, gLR, gRL, Int.reduceLT, Int.reduceLE, Int.reduceEq, Int.reduceAdd, Int.reduceSub, Int.reduceMul, Int.reduceNeg, Int.reduceToNat, Nat.reduceEqDiff, reduceIte, if_neg, if_pos, gI_ne, gIv 98, hw, v2, t9, hb, hs, hd, show bI true = 1 from rfl, show bI false = 0 from rfl]
        exact nx
      · rw [decide_eq_false g2] at hd
        have c2 : ¬ dgtB d n f = true := by unfold dgtB; rw [decide_eq_false g2, Bool.and_false]; decide
        have tu : tU d n f = f + 1 := by rw [tU, if_neg g0, if_neg c1, if_neg c2]
        have t4 : tK d n f = if d f = 59 then 3 else 4 := by rw [tK, if_neg g0, if_neg c1, if_neg c2]
        by_cases g3 : d f = 59
        · rw [if_pos g3] at t4
          refine wp_e (x := ()) (m := sI (sI (sI w 98 14 (Zi f)) 98 16 (Zi 3)) 98 15 (Zi ((f : Int) + 1))) ?_ ⟨(F9.wI 98 16 _ (by omega)).wI 98 15 _ (by omega), by rw [vI_nk (by omega), vI_nk (by omega), v2], by rw [vI_eq (by omega), if_pos rfl, tu]; omega, by rw [vI_nk (by omega), vI_eq (by omega), if_pos rfl, t4], fun z => by omega⟩
          have v4 : vI (sI (sI w 98 14 (Zi f)) 98 16 (Zi 3)) 98 15 = f := by rw [vI_nk (by omega), v3]
          simp (disch := omega) only [fX13_scan_26, fX13_scan_123, fX13_scan_130, qbI_s, qbL_s, qbV_s, qbR_s, qbR_n, qbN_s, qbN_n, qbIX_s, qbIX_n, qbVX_s, qbVX_n, cond_true, cond_false, cond_dec, jadd, jsub, jmul, jneg, li_0, li_1, li_2, li_3, li_4, li_5, li_6, li_7, li_8, li_9, li_10, li_14, li_15, li_16, li_19, li_20, li_24, li_30, li_31, li_32, li_39, li_40, li_48, li_57, li_59, li_60, li_63, li_65, li_80, li_81, li_90, li_97, li_99, li_100, li_122, li_126, li_127, li_150, li_160, li_200, li_225, li_255, li_400, li_799, li_800, li_999, li_2400, li_3239, li_3240, li_1048575, li_1431655765, li_858993459, li_252645135, eqb_j, ltb_j, leb_j, inb_j, ix_j, ix_n, nz_b, nz_0, nz_1, eqb_b, bnot, vI_ne, vI_eq, gIL, gLI, gIR, gRI, gLR, gRL, Int.reduceLT, Int.reduceLE, Int.reduceEq, Int.reduceAdd, Int.reduceSub, Int.reduceMul, Int.reduceNeg, Int.reduceToNat, Nat.reduceEqDiff, reduceIte, if_neg, if_pos, gI_ne, gIv 98, hw, v2, t9, hb, hs, hd, v4, show bI false = 0 from rfl]
        · rw [if_neg g3] at t4
          refine wp_e (x := ()) (m := sI (sI (sI w 98 14 (Zi f)) 98 16 (Zi 4)) 98 15 (Zi ((f : Int) + 1))) ?_ ⟨(F9.wI 98 16 _ (by omega)).wI 98 15 _ (by omega), by rw [vI_nk (by omega), vI_nk (by omega), v2], by rw [vI_eq (by omega), if_pos rfl, tu]; omega, by rw [vI_nk (by omega), vI_eq (by omega), if_pos rfl, t4], fun z => by omega⟩
          have v4 : vI (sI (sI w 98 14 (Zi f)) 98 16 (Zi 4)) 98 15 = f := by rw [vI_nk (by omega), v3]
          simp (disch := omega) only [fX13_scan_26, fX13_scan_123, fX13_scan_130, qbI_s, qbL_s, qbV_s, qbR_s, qbR_n, qbN_s, qbN_n, qbIX_s, qbIX_n, qbVX_s, qbVX_n, cond_true, cond_false, cond_dec, jadd, jsub, jmul, jneg, li_0, li_1, li_2, li_3, li_4, li_5, li_6, li_7, li_8, li_9, li_10, li_14, li_15, li_16, li_19, li_20, li_24, li_30, li_31, li_32, li_39, li_40, li_48, li_57, li_59, li_60, li_63, li_65, li_80, li_81, li_90, li_97, li_99, li_100, li_122, li_126, li_127, li_150, li_160, li_200, li_225, li_255, li_400, li_799, li_800, li_999, li_2400, li_3239, li_3240, li_1048575, li_1431655765, li_858993459, li_252645135, eqb_j, ltb_j, leb_j, inb_j, ix_j, ix_n, nz_b, nz_0, nz_1, eqb_b, bnot, vI_ne, vI_eq, gIL, gLI, gIR, gRI, gLR, gRL, Int.reduceLT, Int.reduceLE, Int.reduceEq, Int.reduceAdd, Int.reduceSub, Int.reduceMul, Int.reduceNeg, Int.reduceToNat, Nat.reduceEqDiff, reduceIte, if_neg, if_pos, gI_ne, gIv 98, hw, v2, t9, hb, hs, hd, v4, show bI false = 0 from rfl]
