/-! a new ask; the evening begins; what is told; notes read -/
noncomputable def lastB (m : qM) (a : Int) : Bool := decide ((0 ≤ a ∧ a ≤ 799) ∧ (vI m 98 52 = 0 ∨ vI m 134 ((vI m 98 52).toNat - 1) ≤ a))
theorem canBe_s (m : qM) (hTe : RTell m) (a : Int) (h : -2147483648 ≤ a ∧ a < 2147483648) : fX9_canBeAt (Zi a) m = some (Zi (bI (lastB m a)), m) := by
  obtain ⟨e1, e2, e3, e4, e5, e6⟩ := hTe
  rw [fX9_canBeAt_d]
  unfold lastB
  by_cases g0 : 0 ≤ a ∧ a ≤ 799
  · by_cases g1 : vI m 98 52 = 0
    · rw [decide_eq_true (And.intro g0 (Or.inl g1))]
      simp (disch := omega) only [fX9_canBeAt_0, fX9_canBeAt_13, fX9_canBeAt_14, fX9_minuteOf_d, fX9_minuteOf_0, fX9_minuteOf_11, fX9_minuteOf_12, qbI_s, qbL_s, qbV_s, qbR_s, qbR_n, qbN_s, qbN_n, qbIX_s, qbIX_n, qbVX_s, qbVX_n, cond_true, cond_false, cond_dec, jadd, jsub, jmul, jneg, li_0, li_1, li_2, li_3, li_4, li_5, li_6, li_7, li_8, li_9, li_10, li_14, li_15, li_16, li_19, li_20, li_24, li_30, li_31, li_32, li_39, li_40, li_48, li_57, li_59, li_60, li_63, li_65, li_80, li_81, li_90, li_97, li_99, li_100, li_122, li_126, li_127, li_150, li_160, li_200, li_225, li_255, li_400, li_799, li_800, li_999, li_2400, li_3239, li_3240, li_1048575, li_1431655765, li_858993459, li_252645135, eqb_j, ltb_j, leb_j, inb_j, ix_j, ix_n, nz_b, nz_0, nz_1, eqb_b, bnot, vI_ne, vI_eq, gIL, gLI, gIR, gRI, gLR, gRL, Int.reduceLT, Int.reduceLE, Int.reduceEq, Int.reduceAdd, Int.reduceSub, Int.reduceMul, Int.reduceNeg, Int.reduceToNat, Nat.reduceEqDiff, reduceIte, if_neg, if_pos, gI_ne, mR_s, gIv 74, e1, g1, show bI true = 1 from rfl]
    · have k1 := e5 ((vI m 98 52).toNat - 1) (by omega)
      have k2 := (e4 ((vI m 98 52).toNat - 1) (by omega)).2.1
      have i1 : (vI m 98 52 - 1).toNat = (vI m 98 52).toNat - 1 := by omega
      simp (disch := omega) only [fX9_canBeAt_0, fX9_canBeAt_13, fX9_canBeAt_14, fX9_minuteOf_d, fX9_minuteOf_0, fX9_minuteOf_11, fX9_minuteOf_12, qbI_s, qbL_s, qbV_s, qbR_s, qbR_n, qbN_s, qbN_n, qbIX_s, qbIX_n, qbVX_s, qbVX_n, cond_true, cond_false, cond_dec, jadd, jsub, jmul, jneg, li_0, li_1, li_2, li_3, li_4, li_5, li_6, li_7, li_8, li_9, li_10, li_14, li_15, li_16, li_19, li_20, li_24, li_30, li_31, li_32, li_39, li_40, li_48, li_57, li_59, li_60, li_63, li_65, li_80, li_81, li_90, li_97, li_99, li_100, li_122, li_126, li_127, li_150, li_160, li_200, li_225, li_255, li_400, li_799, li_800, li_999, li_2400, li_3239, li_3240, li_1048575, li_1431655765, li_858993459, li_252645135, eqb_j, ltb_j, leb_j, inb_j, ix_j, ix_n, nz_b, nz_0, nz_1, eqb_b, bnot, vI_ne, vI_eq, gIL, gLI, gIR, gRI, gLR, gRL, Int.reduceLT, Int.reduceLE, Int.reduceEq, Int.reduceAdd, Int.reduceSub, Int.reduceMul, Int.reduceNeg, Int.reduceToNat, Nat.reduceEqDiff, reduceIte, if_neg, if_pos, gI_ne, mR_s, gIv 74, gIv 76, e1, i1, k2, bI_dec]
      by_cases g2 : a < vI m 134 ((vI m 98 52).toNat - 1)
      · rw [if_pos g2, if_neg (by omega)]
      · rw [if_neg g2, if_pos (by omega)]
  · rw [decide_eq_false (fun z => g0 z.1)]
    simp (disch := omega) only [fX9_canBeAt_0, fX9_canBeAt_13, fX9_canBeAt_14, qbI_s, qbL_s, qbV_s, qbR_s, qbR_n, qbN_s, qbN_n, qbIX_s, qbIX_n, qbVX_s, qbVX_n, cond_true, cond_false, cond_dec, jadd, jsub, jmul, jneg, li_0, li_1, li_2, li_3, li_4, li_5, li_6, li_7, li_8, li_9, li_10, li_14, li_15, li_16, li_19, li_20, li_24, li_30, li_31, li_32, li_39, li_40, li_48, li_57, li_59, li_60, li_63, li_65, li_80, li_81, li_90, li_97, li_99, li_100, li_122, li_126, li_127, li_150, li_160, li_200, li_225, li_255, li_400, li_799, li_800, li_999, li_2400, li_3239, li_3240, li_1048575, li_1431655765, li_858993459, li_252645135, eqb_j, ltb_j, leb_j, inb_j, ix_j, ix_n, nz_b, nz_0, nz_1, eqb_b, bnot, vI_ne, vI_eq, gIL, gLI, gIR, gRI, gLR, gRL, Int.reduceLT, Int.reduceLE, Int.reduceEq, Int.reduceAdd, Int.reduceSub, Int.reduceMul, Int.reduceNeg, Int.reduceToNat, Nat.reduceEqDiff, reduceIte, if_neg, if_pos, gI_ne, mR_s, show bI false = 0 from rfl]
theorem isNext_s (m : qM) (h5 : 0 ≤ vI m 98 52 ∧ vI m 98 52 ≤ 80) (a : Int) (h : -2147483648 ≤ a ∧ a < 2147483648) : fX13_isNext (Zi a) m = some (Zi (bI (lastB m a)), m) := by
  rw [fX13_isNext_d]
  unfold lastB
  by_cases g0 : 0 ≤ a ∧ a ≤ 799
  · by_cases g1 : vI m 98 52 = 0
    · rw [decide_eq_true (And.intro g0 (Or.inl g1))]
      simp (disch := omega) only [fX13_isNext_0, fX13_isNext_16, fX13_isNext_18, fX13_isNext_19, qbI_s, qbL_s, qbV_s, qbR_s, qbR_n, qbN_s, qbN_n, qbIX_s, qbIX_n, qbVX_s, qbVX_n, cond_true, cond_false, cond_dec, jadd, jsub, jmul, jneg, li_0, li_1, li_2, li_3, li_4, li_5, li_6, li_7, li_8, li_9, li_10, li_14, li_15, li_16, li_19, li_20, li_24, li_30, li_31, li_32, li_39, li_40, li_48, li_57, li_59, li_60, li_63, li_65, li_80, li_81, li_90, li_97, li_99, li_100, li_122, li_126, li_127, li_150, li_160, li_200, li_225, li_255, li_400, li_799, li_800, li_999, li_2400, li_3239, li_3240, li_1048575, li_1431655765, li_858993459, li_252645135, eqb_j, ltb_j, leb_j, inb_j, ix_j, ix_n, nz_b, nz_0, nz_1, eqb_b, bnot, vI_ne, vI_eq, gIL, gLI, gIR, gRI, gLR, gRL, Int.reduceLT, Int.reduceLE, Int.reduceEq, Int.reduceAdd, Int.reduceSub, Int.reduceMul, Int.reduceNeg, Int.reduceToNat, Nat.reduceEqDiff, reduceIte, if_neg, if_pos, gI_ne, mM_s, gIv 98, g1, show bI true = 1 from rfl]
    · have k1 := vI_r m 134 ((vI m 98 52).toNat - 1)
      have i1 : (vI m 98 52 - 1).toNat = (vI m 98 52).toNat - 1 := by omega
      simp (disch := omega) only [fX13_isNext_0, fX13_isNext_16, fX13_isNext_18, fX13_isNext_19, qbI_s, qbL_s, qbV_s, qbR_s, qbR_n, qbN_s, qbN_n, qbIX_s, qbIX_n, qbVX_s, qbVX_n, cond_true, cond_false, cond_dec, jadd, jsub, jmul, jneg, li_0, li_1, li_2, li_3, li_4, li_5, li_6, li_7, li_8, li_9, li_10, li_14, li_15, li_16, li_19, li_20, li_24, li_30, li_31, li_32, li_39, li_40, li_48, li_57, li_59, li_60, li_63, li_65, li_80, li_81, li_90, li_97, li_99, li_100, li_122, li_126, li_127, li_150, li_160, li_200, li_225, li_255, li_400, li_799, li_800, li_999, li_2400, li_3239, li_3240, li_1048575, li_1431655765, li_858993459, li_252645135, eqb_j, ltb_j, leb_j, inb_j, ix_j, ix_n, nz_b, nz_0, nz_1, eqb_b, bnot, vI_ne, vI_eq, gIL, gLI, gIR, gRI, gLR, gRL, Int.reduceLT, Int.reduceLE, Int.reduceEq, Int.reduceAdd, Int.reduceSub, Int.reduceMul, Int.reduceNeg, Int.reduceToNat, Nat.reduceEqDiff, reduceIte, if_neg, if_pos, gI_ne, mM_s, gIv 98, gIv 134, i1, bI_dec]
      by_cases g2 : a < vI m 134 ((vI m 98 52).toNat - 1)
      · rw [if_pos g2, if_neg (by omega)]
      · rw [if_neg g2, if_pos (by omega)]
  · rw [decide_eq_false (fun z => g0 z.1)]
    simp (disch := omega) only [fX13_isNext_0, fX13_isNext_16, fX13_isNext_18, fX13_isNext_19, qbI_s, qbL_s, qbV_s, qbR_s, qbR_n, qbN_s, qbN_n, qbIX_s, qbIX_n, qbVX_s, qbVX_n, cond_true, cond_false, cond_dec, jadd, jsub, jmul, jneg, li_0, li_1, li_2, li_3, li_4, li_5, li_6, li_7, li_8, li_9, li_10, li_14, li_15, li_16, li_19, li_20, li_24, li_30, li_31, li_32, li_39, li_40, li_48, li_57, li_59, li_60, li_63, li_65, li_80, li_81, li_90, li_97, li_99, li_100, li_122, li_126, li_127, li_150, li_160, li_200, li_225, li_255, li_400, li_799, li_800, li_999, li_2400, li_3239, li_3240, li_1048575, li_1431655765, li_858993459, li_252645135, eqb_j, ltb_j, leb_j, inb_j, ix_j, ix_n, nz_b, nz_0, nz_1, eqb_b, bnot, vI_ne, vI_eq, gIL, gLI, gIR, gRI, gLR, gRL, Int.reduceLT, Int.reduceLE, Int.reduceEq, Int.reduceAdd, Int.reduceSub, Int.reduceMul, Int.reduceNeg, Int.reduceToNat, Nat.reduceEqDiff, reduceIte, if_neg, if_pos, gI_ne, mM_s, show bI false = 0 from rfl]
noncomputable def tellC (m : qM) (n : Nat) (k a o x y : Int) : qM := sI (sI (sI (sI (sI (sI m 75 n (Zi k)) 76 n (Zi a)) 77 n (Zi o)) 78 n (Zi x)) 79 n (Zi y)) 74 5 (Zi (n + 1))
noncomputable def tellM (m : qM) (n : Nat) (k a o x y : Int) : qM := sI (sI (sI (sI (sI (sI m 134 n (Zi a)) 135 n (Zi k)) 136 n (Zi o)) 137 n (Zi x)) 138 n (Zi y)) 98 52 (Zi (n + 1))
/-- a telling, on both sides -/
theorem tell_s (m : qM) (hR : R0 m) (h1 : vI m 98 33 = 1) (k a o x y : Int) (ha : lastB m a = true) (ho : (k = 0 ∧ 0 ≤ o ∧ o < vI m 98 32 ∧ 0 ≤ x ∧ x ≤ 60 ∧ y = 0) ∨ (k = 1 ∧ 0 ≤ o ∧ o < vI m 98 32 ∧ (x = 0 ∨ x = 1) ∧ y = 0) ∨ (k = 2 ∧ 0 ≤ o ∧ o ≤ 14 ∧ 0 ≤ x ∧ x ≤ 799 ∧ y = 0) ∨ (k = 3 ∧ 0 ≤ o ∧ o ≤ 9 ∧ 0 ≤ x ∧ x ≤ y ∧ y ≤ 799)) :
    ∃ z m1 m2, fX9_add (Zi k) (Zi a) (Zi o) (Zi x) (Zi y) m = some (z, m1) ∧ (∀ c j, c = 98 ∨ c ≤ 73 ∨ 80 ≤ c → gI m1 c j = gI m c j) ∧ fX13_tell (Zi a) (Zi k) (Zi o) (Zi x) (Zi y) m1 = some (z, m2) ∧ R0 m2 ∧ EK m m2 := by
  have hR' := hR
  obtain ⟨⟨hT, hRd, hRu, hFo, hHa⟩, ⟨hPt, hPf, hAp, hWk⟩, ⟨hAs, hPa, hCl, hDi, hBi, hCn⟩, ⟨hTe, hBe, hNo, hPo⟩⟩ := hR'
  have hTe' := hTe
  obtain ⟨e1, e2, e3, e4, e5, e6⟩ := hTe'
  have hAs3 := hAs.2.2.1
  simp only [lastB, decide_eq_true_eq] at ha
  by_cases g : vI m 98 52 = 80
  · refine ⟨Zi (-3), m, m, ?_, fun _ _ _ => rfl, ?_, hR, EK.rf m⟩
    · rw [fX9_add_d]
      simp (disch := omega) only [fX9_add_0, qbI_s, qbL_s, qbV_s, qbR_s, qbR_n, qbN_s, qbN_n, qbIX_s, qbIX_n, qbVX_s, qbVX_n, cond_true, cond_false, cond_dec, jadd, jsub, jmul, jneg, li_0, li_1, li_2, li_3, li_4, li_5, li_6, li_7, li_8, li_9, li_10, li_14, li_15, li_16, li_19, li_20, li_24, li_30, li_31, li_32, li_39, li_40, li_48, li_57, li_59, li_60, li_63, li_65, li_80, li_81, li_90, li_97, li_99, li_100, li_122, li_126, li_127, li_150, li_160, li_200, li_225, li_255, li_400, li_799, li_800, li_999, li_2400, li_3239, li_3240, li_1048575, li_1431655765, li_858993459, li_252645135, eqb_j, ltb_j, leb_j, inb_j, ix_j, ix_n, nz_b, nz_0, nz_1, eqb_b, bnot, vI_ne, vI_eq, gIL, gLI, gIR, gRI, gLR, gRL, Int.reduceLT, Int.reduceLE, Int.reduceEq, Int.reduceAdd, Int.reduceSub, Int.reduceMul, Int.reduceNeg, Int.reduceToNat, Nat.reduceEqDiff, reduceIte, if_neg, if_pos, gI_ne, gIv 74, e1]
    · rw [fX13_tell_d]
      simp (disch := omega) only [fX13_tell_0, qbI_s, qbL_s, qbV_s, qbR_s, qbR_n, qbN_s, qbN_n, qbIX_s, qbIX_n, qbVX_s, qbVX_n, cond_true, cond_false, cond_dec, jadd, jsub, jmul, jneg, li_0, li_1, li_2, li_3, li_4, li_5, li_6, li_7, li_8, li_9, li_10, li_14, li_15, li_16, li_19, li_20, li_24, li_30, li_31, li_32, li_39, li_40, li_48, li_57, li_59, li_60, li_63, li_65, li_80, li_81, li_90, li_97, li_99, li_100, li_122, li_126, li_127, li_150, li_160, li_200, li_225, li_255, li_400, li_799, li_800, li_999, li_2400, li_3239, li_3240, li_1048575, li_1431655765, li_858993459, li_252645135, eqb_j, ltb_j, leb_j, inb_j, ix_j, ix_n, nz_b, nz_0, nz_1, eqb_b, bnot, vI_ne, vI_eq, gIL, gLI, gIR, gRI, gLR, gRL, Int.reduceLT, Int.reduceLE, Int.reduceEq, Int.reduceAdd, Int.reduceSub, Int.reduceMul, Int.reduceNeg, Int.reduceToNat, Nat.reduceEqDiff, reduceIte, if_neg, if_pos, gI_ne, gIv 98]
  · obtain ⟨n, hn⟩ : ∃ n : Nat, vI m 98 52 = n := ⟨(vI m 98 52).toNat, by omega⟩
    have q : ∀ c j, ¬ ((75 ≤ c ∧ c ≤ 79 ∨ 134 ≤ c ∧ c ≤ 138) ∧ j = n ∨ c = 74 ∧ j = 5 ∨ c = 98 ∧ j = 52) → gI (tellM (tellC m n k a o x y) n k a o x y) c j = gI m c j := fun c j hc => by
      unfold tellM tellC
      simp only [gI_sI]
      simp (disch := omega) only [if_neg]
    have hT9 : RTell (tellM (tellC m n k a o x y) n k a o x y) := by
      unfold tellM tellC
      simp (disch := omega) only [RTell, qbI_s, qbL_s, qbV_s, qbR_s, qbR_n, qbN_s, qbN_n, qbIX_s, qbIX_n, qbVX_s, qbVX_n, cond_true, cond_false, cond_dec, jadd, jsub, jmul, jneg, li_0, li_1, li_2, li_3, li_4, li_5, li_6, li_7, li_8, li_9, li_10, li_14, li_15, li_16, li_19, li_20, li_24, li_30, li_31, li_32, li_39, li_40, li_48, li_57, li_59, li_60, li_63, li_65, li_80, li_81, li_90, li_97, li_99, li_100, li_122, li_126, li_127, li_150, li_160, li_200, li_225, li_255, li_400, li_799, li_800, li_999, li_2400, li_3239, li_3240, li_1048575, li_1431655765, li_858993459, li_252645135, eqb_j, ltb_j, leb_j, inb_j, ix_j, ix_n, nz_b, nz_0, nz_1, eqb_b, bnot, vI_ne, vI_eq, gIL, gLI, gIR, gRI, gLR, gRL, Int.reduceLT, Int.reduceLE, Int.reduceEq, Int.reduceAdd, Int.reduceSub, Int.reduceMul, Int.reduceNeg, Int.reduceToNat, Nat.reduceEqDiff, reduceIte, if_neg, if_pos, gI_ne]
      refine ⟨by first | trivial | omega, by omega, by omega, fun j hj => ?_, fun j hj => ?_, fun i j hij hj => ?_⟩
      · have k1 := e4 j hj
        by_cases e : j = n
        · simp only [if_pos e]
          exact ⟨trivial, trivial, trivial, trivial, trivial⟩
        · simp only [if_neg e]
          exact k1
      · by_cases e : j = n
        · simp only [if_pos e]
          refine ⟨by omega, by omega, ?_⟩
          omega
        · simp only [if_neg e]
          exact e5 j (by omega)
      · by_cases e : j = n
        · rw [if_pos e]
          by_cases e8 : i = n
          · rw [if_pos e8]
            exact Int.le_refl _
          · rw [if_neg e8]
            have k2 := e6 i (n - 1) (by omega) (by omega)
            rw [hn, Int.toNat_natCast] at ha
            omega
        · rw [if_neg e, if_neg (by omega)]
          exact e6 i j hij (by omega)
    have hB9 : RBeg (tellM (tellC m n k a o x y) n k a o x y) := by
      obtain ⟨b1, b2, b3⟩ := hBe
      have v := fun c k hc => vI_of (q c k hc)
      unfold RBeg
      simp (disch := omega) only [v]
      exact ⟨b1, b2, fun z => by omega⟩
    refine ⟨Zi (n + 1), tellC m n k a o x y, tellM (tellC m n k a o x y) n k a o x y, ?_, ?_, ?_, ⟨⟨hT.mono (fun c k hc => q c k (by omega)), hRd.mono (fun c k hc => q c k (by omega)), hRu.mono (fun c k hc => q c k (by omega)), hFo.mono (fun c k hc => q c k (by omega)), hHa.mono (fun c k hc => q c k (by omega))⟩, ⟨hPt.mono (fun c k hc => q c k (by omega)), hPf.mono (fun c k hc => q c k (by omega)), hAp.mono (fun c k hc => q c k (by omega)), hWk.mono (fun c k hc => q c k (by omega))⟩, ⟨hAs.mono (fun c k hc => q c k (by omega)), hPa.mono (fun c k hc => q c k (by omega)), hCl.mono (fun c k hc => q c k (by omega)), hDi.mono (fun c k hc => q c k (by omega)), hBi.mono (fun c k hc => q c k (by omega)), hCn.mono (fun c k hc => q c k (by omega))⟩, ⟨(hT9), (hB9), hNo.mono (fun c k hc => q c k (by omega)), hPo.mono (fun c k hc => q c k (by omega)) (by unfold tellM tellC; simp only [gR_sI])⟩⟩, Or.inr ⟨?_, fun c j hc hj => vI_of (q c j ?_)⟩⟩
    · rw [fX9_add_d]
      unfold tellC
      simp (disch := omega) only [fX9_add_0, qbI_s, qbL_s, qbV_s, qbR_s, qbR_n, qbN_s, qbN_n, qbIX_s, qbIX_n, qbVX_s, qbVX_n, cond_true, cond_false, cond_dec, jadd, jsub, jmul, jneg, li_0, li_1, li_2, li_3, li_4, li_5, li_6, li_7, li_8, li_9, li_10, li_14, li_15, li_16, li_19, li_20, li_24, li_30, li_31, li_32, li_39, li_40, li_48, li_57, li_59, li_60, li_63, li_65, li_80, li_81, li_90, li_97, li_99, li_100, li_122, li_126, li_127, li_150, li_160, li_200, li_225, li_255, li_400, li_799, li_800, li_999, li_2400, li_3239, li_3240, li_1048575, li_1431655765, li_858993459, li_252645135, eqb_j, ltb_j, leb_j, inb_j, ix_j, ix_n, nz_b, nz_0, nz_1, eqb_b, bnot, vI_ne, vI_eq, gIL, gLI, gIR, gRI, gLR, gRL, Int.reduceLT, Int.reduceLE, Int.reduceEq, Int.reduceAdd, Int.reduceSub, Int.reduceMul, Int.reduceNeg, Int.reduceToNat, Nat.reduceEqDiff, reduceIte, if_neg, if_pos, gI_ne, gIv 74, e1, hn]
    · intro c j hc
      unfold tellC
      simp only [gI_sI]
      simp (disch := omega) only [if_neg]
    · have w : vI (tellC m n k a o x y) 98 52 = n := by
        unfold tellC
        simp (disch := omega) only [qbI_s, qbL_s, qbV_s, qbR_s, qbR_n, qbN_s, qbN_n, qbIX_s, qbIX_n, qbVX_s, qbVX_n, cond_true, cond_false, cond_dec, jadd, jsub, jmul, jneg, li_0, li_1, li_2, li_3, li_4, li_5, li_6, li_7, li_8, li_9, li_10, li_14, li_15, li_16, li_19, li_20, li_24, li_30, li_31, li_32, li_39, li_40, li_48, li_57, li_59, li_60, li_63, li_65, li_80, li_81, li_90, li_97, li_99, li_100, li_122, li_126, li_127, li_150, li_160, li_200, li_225, li_255, li_400, li_799, li_800, li_999, li_2400, li_3239, li_3240, li_1048575, li_1431655765, li_858993459, li_252645135, eqb_j, ltb_j, leb_j, inb_j, ix_j, ix_n, nz_b, nz_0, nz_1, eqb_b, bnot, vI_ne, vI_eq, gIL, gLI, gIR, gRI, gLR, gRL, Int.reduceLT, Int.reduceLE, Int.reduceEq, Int.reduceAdd, Int.reduceSub, Int.reduceMul, Int.reduceNeg, Int.reduceToNat, Nat.reduceEqDiff, reduceIte, if_neg, if_pos, gI_ne]
        exact hn
      unfold tellM
      rw [fX13_tell_d]
      simp (disch := omega) only [fX13_tell_0, qbI_s, qbL_s, qbV_s, qbR_s, qbR_n, qbN_s, qbN_n, qbIX_s, qbIX_n, qbVX_s, qbVX_n, cond_true, cond_false, cond_dec, jadd, jsub, jmul, jneg, li_0, li_1, li_2, li_3, li_4, li_5, li_6, li_7, li_8, li_9, li_10, li_14, li_15, li_16, li_19, li_20, li_24, li_30, li_31, li_32, li_39, li_40, li_48, li_57, li_59, li_60, li_63, li_65, li_80, li_81, li_90, li_97, li_99, li_100, li_122, li_126, li_127, li_150, li_160, li_200, li_225, li_255, li_400, li_799, li_800, li_999, li_2400, li_3239, li_3240, li_1048575, li_1431655765, li_858993459, li_252645135, eqb_j, ltb_j, leb_j, inb_j, ix_j, ix_n, nz_b, nz_0, nz_1, eqb_b, bnot, vI_ne, vI_eq, gIL, gLI, gIR, gRI, gLR, gRL, Int.reduceLT, Int.reduceLE, Int.reduceEq, Int.reduceAdd, Int.reduceSub, Int.reduceMul, Int.reduceNeg, Int.reduceToNat, Nat.reduceEqDiff, reduceIte, if_neg, if_pos, gI_ne, gIv 98, w]
    · unfold tellM
      rw [vI_eq (by omega), if_pos rfl]
      omega
    · unfold EvD at hc
      omega
theorem laidC (m : qM) (hAs : RAsk m) (a : Nat) (h : (a : Int) < vI m 98 32) : fX4_isLaid (Zi a) m = some (Zi (bI (isLd (vI m) a)), m) := by
  obtain ⟨e1, e2, e3, e4⟩ := hAs
  have k4 := (e4 a h).2.2.2
  rw [fX4_isLaid_d]
  simp (disch := omega) only [fX4_isLaid_0, fX4_isLaid_9, qbI_s, qbL_s, qbV_s, qbR_s, qbR_n, qbN_s, qbN_n, qbIX_s, qbIX_n, qbVX_s, qbVX_n, cond_true, cond_false, cond_dec, jadd, jsub, jmul, jneg, li_0, li_1, li_2, li_3, li_4, li_5, li_6, li_7, li_8, li_9, li_10, li_14, li_15, li_16, li_19, li_20, li_24, li_30, li_31, li_32, li_39, li_40, li_48, li_57, li_59, li_60, li_63, li_65, li_80, li_81, li_90, li_97, li_99, li_100, li_122, li_126, li_127, li_150, li_160, li_200, li_225, li_255, li_400, li_799, li_800, li_999, li_2400, li_3239, li_3240, li_1048575, li_1431655765, li_858993459, li_252645135, eqb_j, ltb_j, leb_j, inb_j, ix_j, ix_n, nz_b, nz_0, nz_1, eqb_b, bnot, vI_ne, vI_eq, gIL, gLI, gIR, gRI, gLR, gRL, Int.reduceLT, Int.reduceLE, Int.reduceEq, Int.reduceAdd, Int.reduceSub, Int.reduceMul, Int.reduceNeg, Int.reduceToNat, Nat.reduceEqDiff, reduceIte, if_neg, if_pos, gI_ne, gIv 62, k4.1, isLd, bI_dec]
  by_cases g : vI m 125 a = -1
  · rw [if_pos g, if_neg (by simp [g])]
  · rw [if_neg g, if_pos g]
theorem meetM (m : qM) (b2 : vI m 98 33 = 0 ∨ vI m 98 33 = 1) (a : Nat) (h : a < 40) : fX13_isMeeting (Zi a) m = some (Zi (bI (decide (vI m 98 33 = 1) && isLd (vI m) a)), m) := by
  have k4 := vI_r m 125 a
  rw [fX13_isMeeting_d]
  simp (disch := omega) only [fX13_isMeeting_0, fX13_isMeeting_11, fX13_isMeeting_12, qbI_s, qbL_s, qbV_s, qbR_s, qbR_n, qbN_s, qbN_n, qbIX_s, qbIX_n, qbVX_s, qbVX_n, cond_true, cond_false, cond_dec, jadd, jsub, jmul, jneg, li_0, li_1, li_2, li_3, li_4, li_5, li_6, li_7, li_8, li_9, li_10, li_14, li_15, li_16, li_19, li_20, li_24, li_30, li_31, li_32, li_39, li_40, li_48, li_57, li_59, li_60, li_63, li_65, li_80, li_81, li_90, li_97, li_99, li_100, li_122, li_126, li_127, li_150, li_160, li_200, li_225, li_255, li_400, li_799, li_800, li_999, li_2400, li_3239, li_3240, li_1048575, li_1431655765, li_858993459, li_252645135, eqb_j, ltb_j, leb_j, inb_j, ix_j, ix_n, nz_b, nz_0, nz_1, eqb_b, bnot, vI_ne, vI_eq, gIL, gLI, gIR, gRI, gLR, gRL, Int.reduceLT, Int.reduceLE, Int.reduceEq, Int.reduceAdd, Int.reduceSub, Int.reduceMul, Int.reduceNeg, Int.reduceToNat, Nat.reduceEqDiff, reduceIte, if_neg, if_pos, gI_ne, gIv 125, gIv 98, isLd]
  by_cases g : vI m 98 33 = 0
  · rw [if_pos g, decide_eq_false (show ¬ vI m 98 33 = 1 by omega)]
    rfl
  · rw [if_neg g, decide_eq_true (show vI m 98 33 = 1 by omega), Bool.true_and]
    by_cases g2 : vI m 125 a = -1
    · rw [if_pos g2, bI_dec, if_neg (by simp [g2])]
    · rw [if_neg g2, bI_dec, if_pos g2]
theorem lastB_mono {m m' : qM} (q : ∀ c k, c = 98 ∧ k = 52 ∨ c = 134 → gI m' c k = gI m c k) (a : Int) : lastB m' a = lastB m a := by
  unfold lastB
  rw [vI_of (q 98 52 (by omega)), vI_of (q 134 _ (by omega))]
theorem isLd_mono {m m' : qM} (q : ∀ c k, c = 125 → gI m' c k = gI m c k) (a : Nat) : isLd (vI m') a = isLd (vI m) a := by
  unfold isLd
  rw [vI_of (q 125 a rfl)]
