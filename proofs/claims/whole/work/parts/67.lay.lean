/-! calls that lay one ask, or lift one (by program in part) -/
/-- the data that the plan is told out of -/
def dP (c k : Nat) : Prop := c = 98 ∧ k = 32 ∨ c = 99 ∨ 112 ≤ c ∧ c ≤ 126
theorem CAll.congr {m m' : qM} {d d' : Nat → Nat → Int} (h : CAll m d) (q : ∀ c k, c ≤ 67 → gI m' c k = gI m c k) (qd : ∀ c k, dP c k → d' c k = d c k) : CAll m' d' := by
  obtain ⟨hRu, hPt, hPf, hAp, hWk, hAs, hPa, hCl, hDi, hBi, hCn⟩ := h
  have q' : ∀ c k, (c = 98 ∧ k = 32 ∨ c = 99 ∨ 112 ≤ c ∧ c ≤ 126) → d' c k = d c k := qd
  refine ⟨?_, ?_, ?_, ?_, ?_, ?_, ?_, ?_, ?_, ?_, ?_⟩
  · have v : ∀ c k, c ≤ 67 → vI m' c k = vI m c k := fun c k hc => vI_of (q c k hc)
    simp only [CRule] at hRu ⊢
    simp (disch := omega) only [v, q, q']
    exact hRu
  · have v : ∀ c k, c ≤ 67 → vI m' c k = vI m c k := fun c k hc => vI_of (q c k hc)
    simp only [CPeoT] at hPt ⊢
    simp (disch := omega) only [v, q, q']
    exact hPt
  · have v : ∀ c k, c ≤ 67 → vI m' c k = vI m c k := fun c k hc => vI_of (q c k hc)
    simp only [CPeoF] at hPf ⊢
    simp (disch := omega) only [v, q, q']
    exact hPf
  · have v : ∀ c k, c ≤ 67 → vI m' c k = vI m c k := fun c k hc => vI_of (q c k hc)
    simp only [CApart] at hAp ⊢
    simp (disch := omega) only [v, q, q']
    exact hAp
  · have v : ∀ c k, c ≤ 67 → vI m' c k = vI m c k := fun c k hc => vI_of (q c k hc)
    simp only [CWalk, wkV] at hWk ⊢
    simp (disch := omega) only [v, q, q']
    exact hWk
  · have v : ∀ c k, c ≤ 67 → vI m' c k = vI m c k := fun c k hc => vI_of (q c k hc)
    simp only [CAsk] at hAs ⊢
    simp (disch := omega) only [v, q, q']
    exact hAs
  · have v : ∀ c k, c ≤ 67 → vI m' c k = vI m c k := fun c k hc => vI_of (q c k hc)
    simp only [CPair] at hPa ⊢
    simp (disch := omega) only [v, q, q']
    exact hPa
  · have v : ∀ c k, c ≤ 67 → vI m' c k = vI m c k := fun c k hc => vI_of (q c k hc)
    simp only [CClash] at hCl ⊢
    simp (disch := omega) only [v, q, q']
    exact hCl
  · have v : ∀ c k, c ≤ 67 → vI m' c k = vI m c k := fun c k hc => vI_of (q c k hc)
    simp only [CDiary] at hDi ⊢
    simp (disch := omega) only [v, q, q']
    exact hDi
  · have v : ∀ c k, c ≤ 67 → vI m' c k = vI m c k := fun c k hc => vI_of (q c k hc)
    simp only [CBits, laidF, laidT, laidI] at hBi ⊢
    simp (disch := omega) only [v, q, q']
    exact hBi
  · have v : ∀ c k, c ≤ 67 → vI m' c k = vI m c k := fun c k hc => vI_of (q c k hc)
    simp only [CCnt, isLd, ptV] at hCn ⊢
    simp (disch := omega) only [v, q, q']
    exact hCn
theorem ok_mono {d d' : Nat → Nat → Int} (q : ∀ c k, dP c k → d' c k = d c k) (a s o : Nat) : okV d' a s o ↔ okV d a s o := by
  have q' : ∀ c k, (c = 98 ∧ k = 32 ∨ c = 99 ∨ 112 ≤ c ∧ c ≤ 126) → d' c k = d c k := q
  simp only [okV, wslV, wkV]
  simp (disch := omega) only [q']
theorem mb_mono {d d' : Nat → Nat → Int} (q : ∀ c k, dP c k → d' c k = d c k) {a s : Nat} : mbV d' a s = mbV d a s := by
  have q' : ∀ c k, (c = 98 ∧ k = 32 ∨ c = 99 ∨ 112 ≤ c ∧ c ≤ 126) → d' c k = d c k := q
  have e1 : pd (∀ o : Nat, (o : Int) < d' 98 32 → okV d' a s o) = pd (∀ o : Nat, (o : Int) < d 98 32 → okV d a s o) := by
    rw [Bool.eq_iff_iff, pd_iff, pd_iff, q' 98 32 (by omega)]
    exact ⟨fun h o ho => (ok_mono q a s o).mp (h o ho), fun h o ho => (ok_mono q a s o).mpr (h o ho)⟩
  have e2 : ∀ t, ltB d' t = ltB d t := fun t => by
    funext k
    simp only [ltB, laidT]
    simp (disch := omega) only [q']
  unfold mbV restB
  rw [e1, e2, q' 124 a (by omega), q' 123 a (by omega), q' 114 _ (by omega), q' 115 _ (by omega), q' 116 _ (by omega), q' 117 _ (by omega), q' 99 4 (by omega)]
theorem R0.of_C {m m2 : qM} (hR : R0 m) (q : ∀ c k, ¬ (c = 58 ∧ 13 ≤ k ∧ k ≤ 16 ∨ c = 62 ∨ 64 ≤ c ∧ c ≤ 73 ∨ c = 98 ∧ 43 ≤ k ∧ k ≤ 49 ∨ c = 125 ∨ 127 ≤ c ∧ c ≤ 131) → gI m2 c k = gI m c k) (g : gR m2 = gR m) (hC : CAll m2 (vI m2)) : R0 m2 := by
  obtain ⟨⟨hT, hRd, hRu, hFo, hHa⟩, ⟨hPt, hPf, hAp, hWk⟩, ⟨hAs, hPa, hCl, hDi, hBi, hCn⟩, ⟨hTe, hBe, hNo, hPo⟩⟩ := hR
  obtain ⟨h1, h2, h3, h4, h5, h6, h7, h8, h9, h10, h11⟩ := hC
  exact ⟨⟨hT.mono (fun c k hc => q c k (by omega)), hRd.mono (fun c k hc => q c k (by omega)), (h1), hFo.mono (fun c k hc => q c k (by omega)), hHa.mono (fun c k hc => q c k (by omega))⟩, ⟨(h2), (h3), (h4), (h5)⟩, ⟨(h6), (h7), (h8), (h9), (h10), (h11)⟩, ⟨hTe.mono (fun c k hc => q c k (by omega)), hBe.mono (fun c k hc => q c k (by omega)), hNo.mono (fun c k hc => q c k (by omega)), hPo.mono (fun c k hc => q c k (by omega)) g⟩⟩
theorem op_may (m : qM) (hR : R0 m) (a : Int) (b : Int) (ha0 : -2147483648 ≤ a ∧ a < 2147483648) (hb0 : -2147483648 ≤ b ∧ b < 2147483648) : QOp m (fX11_may (Zi a) (Zi b)) (fX13_may (Zi a) (Zi b)) := by
  have hR' := hR
  obtain ⟨⟨hT, hRd, hRu, hFo, hHa⟩, ⟨hPt, hPf, hAp, hWk⟩, ⟨hAs, hPa, hCl, hDi, hBi, hCn⟩, ⟨hTe, hBe, hNo, hPo⟩⟩ := hR'
  have b1 := hBe.1
  have b2 := hBe.2.1
  have bf : bI false = 0 := rfl
  have btr : bI true = 1 := rfl
  have n32 : 0 ≤ vI m 98 32 ∧ vI m 98 32 ≤ 40 := ⟨hAs.2.1, hAs.2.2.1⟩
  have n52 : 0 ≤ vI m 98 52 ∧ vI m 98 52 ≤ 80 := ⟨hTe.2.1, hTe.2.2.1⟩
  by_cases hq1 : 0 ≤ a ∧ a < vI m 98 32
  · obtain ⟨n, rfl⟩ : ∃ n : Nat, a = n := ⟨a.toNat, by omega⟩
    by_cases hq2 : 0 ≤ b ∧ b ≤ 19
    · obtain ⟨s, rfl⟩ : ∃ s : Nat, b = s := ⟨b.toNat, by omega⟩
      have hlc := laidC m hAs n hq1.2
      by_cases hl : vI m 125 n = -1
      · rw [show isLd (vI m) n = false from decide_eq_false (fun z => z hl)] at hlc
        obtain ⟨x, x1, x2, x3⟩ := open_s m (vI m) (CAll.of hR) n hq1.2 hl
        have hx := has_s x s (by omega) m
        rw [x2 s (by omega)] at hx
        have hy := mayBe_s m (MOk.of hR) n s hq1.2 (by omega) hl
        obtain ⟨w, hw⟩ : ∃ w : Bool, mbV (vI m) n s = w := ⟨_, rfl⟩
        rw [hw] at hx hy
        refine QOp.same (x := Zi (bI w)) hR ?_ ?_
        · rw [fX11_may_d]
          simp (disch := omega) only [fX11_may_0, fX11_may_10, fX11_may_29, qbI_s, qbL_s, qbV_s, qbR_s, qbR_n, qbN_s, qbN_n, qbIX_s, qbIX_n, qbVX_s, qbVX_n, cond_true, cond_false, cond_dec, jadd, jsub, jmul, jneg, li_0, li_1, li_2, li_3, li_4, li_5, li_6, li_7, li_8, li_9, li_10, li_14, li_15, li_16, li_19, li_20, li_24, li_30, li_31, li_32, li_39, li_40, li_48, li_57, li_59, li_60, li_63, li_65, li_80, li_81, li_90, li_97, li_99, li_100, li_122, li_126, li_127, li_150, li_160, li_200, li_225, li_255, li_400, li_799, li_800, li_999, li_2400, li_3239, li_3240, li_1048575, li_1431655765, li_858993459, li_252645135, eqb_j, ltb_j, leb_j, inb_j, ix_j, ix_n, nz_b, nz_0, nz_1, eqb_b, bnot, vI_ne, vI_eq, gIL, gLI, gIR, gRI, gLR, gRL, Int.reduceLT, Int.reduceLE, Int.reduceEq, Int.reduceAdd, Int.reduceSub, Int.reduceMul, Int.reduceNeg, Int.reduceToNat, Nat.reduceEqDiff, reduceIte, if_neg, if_pos, gI_ne, isAskC m hAs, within_s, hlc, bf, x1, hx]
          cases w <;> rfl
        · rw [fX13_may_d]
          simp (disch := omega) only [fX13_may_0, fX13_may_7, fX13_may_25, qbI_s, qbL_s, qbV_s, qbR_s, qbR_n, qbN_s, qbN_n, qbIX_s, qbIX_n, qbVX_s, qbVX_n, cond_true, cond_false, cond_dec, jadd, jsub, jmul, jneg, li_0, li_1, li_2, li_3, li_4, li_5, li_6, li_7, li_8, li_9, li_10, li_14, li_15, li_16, li_19, li_20, li_24, li_30, li_31, li_32, li_39, li_40, li_48, li_57, li_59, li_60, li_63, li_65, li_80, li_81, li_90, li_97, li_99, li_100, li_122, li_126, li_127, li_150, li_160, li_200, li_225, li_255, li_400, li_799, li_800, li_999, li_2400, li_3239, li_3240, li_1048575, li_1431655765, li_858993459, li_252645135, eqb_j, ltb_j, leb_j, inb_j, ix_j, ix_n, nz_b, nz_0, nz_1, eqb_b, bnot, vI_ne, vI_eq, gIL, gLI, gIR, gRI, gLR, gRL, Int.reduceLT, Int.reduceLE, Int.reduceEq, Int.reduceAdd, Int.reduceSub, Int.reduceMul, Int.reduceNeg, Int.reduceToNat, Nat.reduceEqDiff, reduceIte, if_neg, if_pos, gI_ne, isAskM m n32, sM_s, gIv 125, hl, hy]
          cases w <;> rfl
      · rw [show isLd (vI m) n = true from decide_eq_true hl] at hlc
        have k9 := vI_r m 125 n
        refine QOp.same (x := Zi (-4)) hR ?_ ?_
        · rw [fX11_may_d]
          simp (disch := omega) only [fX11_may_0, fX11_may_10, fX11_may_29, qbI_s, qbL_s, qbV_s, qbR_s, qbR_n, qbN_s, qbN_n, qbIX_s, qbIX_n, qbVX_s, qbVX_n, cond_true, cond_false, cond_dec, jadd, jsub, jmul, jneg, li_0, li_1, li_2, li_3, li_4, li_5, li_6, li_7, li_8, li_9, li_10, li_14, li_15, li_16, li_19, li_20, li_24, li_30, li_31, li_32, li_39, li_40, li_48, li_57, li_59, li_60, li_63, li_65, li_80, li_81, li_90, li_97, li_99, li_100, li_122, li_126, li_127, li_150, li_160, li_200, li_225, li_255, li_400, li_799, li_800, li_999, li_2400, li_3239, li_3240, li_1048575, li_1431655765, li_858993459, li_252645135, eqb_j, ltb_j, leb_j, inb_j, ix_j, ix_n, nz_b, nz_0, nz_1, eqb_b, bnot, vI_ne, vI_eq, gIL, gLI, gIR, gRI, gLR, gRL, Int.reduceLT, Int.reduceLE, Int.reduceEq, Int.reduceAdd, Int.reduceSub, Int.reduceMul, Int.reduceNeg, Int.reduceToNat, Nat.reduceEqDiff, reduceIte, if_neg, if_pos, gI_ne, isAskC m hAs, within_s, hlc, btr]
        · rw [fX13_may_d]
          simp (disch := omega) only [fX13_may_0, fX13_may_7, fX13_may_25, qbI_s, qbL_s, qbV_s, qbR_s, qbR_n, qbN_s, qbN_n, qbIX_s, qbIX_n, qbVX_s, qbVX_n, cond_true, cond_false, cond_dec, jadd, jsub, jmul, jneg, li_0, li_1, li_2, li_3, li_4, li_5, li_6, li_7, li_8, li_9, li_10, li_14, li_15, li_16, li_19, li_20, li_24, li_30, li_31, li_32, li_39, li_40, li_48, li_57, li_59, li_60, li_63, li_65, li_80, li_81, li_90, li_97, li_99, li_100, li_122, li_126, li_127, li_150, li_160, li_200, li_225, li_255, li_400, li_799, li_800, li_999, li_2400, li_3239, li_3240, li_1048575, li_1431655765, li_858993459, li_252645135, eqb_j, ltb_j, leb_j, inb_j, ix_j, ix_n, nz_b, nz_0, nz_1, eqb_b, bnot, vI_ne, vI_eq, gIL, gLI, gIR, gRI, gLR, gRL, Int.reduceLT, Int.reduceLE, Int.reduceEq, Int.reduceAdd, Int.reduceSub, Int.reduceMul, Int.reduceNeg, Int.reduceToNat, Nat.reduceEqDiff, reduceIte, if_neg, if_pos, gI_ne, isAskM m n32, sM_s, gIv 125]
    · refine QOp.same (x := Zi (-2)) hR ?_ ?_
      · rw [fX11_may_d]
        simp (disch := omega) only [fX11_may_0, fX11_may_10, fX11_may_29, qbI_s, qbL_s, qbV_s, qbR_s, qbR_n, qbN_s, qbN_n, qbIX_s, qbIX_n, qbVX_s, qbVX_n, cond_true, cond_false, cond_dec, jadd, jsub, jmul, jneg, li_0, li_1, li_2, li_3, li_4, li_5, li_6, li_7, li_8, li_9, li_10, li_14, li_15, li_16, li_19, li_20, li_24, li_30, li_31, li_32, li_39, li_40, li_48, li_57, li_59, li_60, li_63, li_65, li_80, li_81, li_90, li_97, li_99, li_100, li_122, li_126, li_127, li_150, li_160, li_200, li_225, li_255, li_400, li_799, li_800, li_999, li_2400, li_3239, li_3240, li_1048575, li_1431655765, li_858993459, li_252645135, eqb_j, ltb_j, leb_j, inb_j, ix_j, ix_n, nz_b, nz_0, nz_1, eqb_b, bnot, vI_ne, vI_eq, gIL, gLI, gIR, gRI, gLR, gRL, Int.reduceLT, Int.reduceLE, Int.reduceEq, Int.reduceAdd, Int.reduceSub, Int.reduceMul, Int.reduceNeg, Int.reduceToNat, Nat.reduceEqDiff, reduceIte, if_neg, if_pos, gI_ne, isAskC m hAs, within_s, gIv 0, b1]
      · rw [fX13_may_d]
        simp (disch := omega) only [fX13_may_0, fX13_may_7, fX13_may_25, qbI_s, qbL_s, qbV_s, qbR_s, qbR_n, qbN_s, qbN_n, qbIX_s, qbIX_n, qbVX_s, qbVX_n, cond_true, cond_false, cond_dec, jadd, jsub, jmul, jneg, li_0, li_1, li_2, li_3, li_4, li_5, li_6, li_7, li_8, li_9, li_10, li_14, li_15, li_16, li_19, li_20, li_24, li_30, li_31, li_32, li_39, li_40, li_48, li_57, li_59, li_60, li_63, li_65, li_80, li_81, li_90, li_97, li_99, li_100, li_122, li_126, li_127, li_150, li_160, li_200, li_225, li_255, li_400, li_799, li_800, li_999, li_2400, li_3239, li_3240, li_1048575, li_1431655765, li_858993459, li_252645135, eqb_j, ltb_j, leb_j, inb_j, ix_j, ix_n, nz_b, nz_0, nz_1, eqb_b, bnot, vI_ne, vI_eq, gIL, gLI, gIR, gRI, gLR, gRL, Int.reduceLT, Int.reduceLE, Int.reduceEq, Int.reduceAdd, Int.reduceSub, Int.reduceMul, Int.reduceNeg, Int.reduceToNat, Nat.reduceEqDiff, reduceIte, if_neg, if_pos, gI_ne, ll_0, ll_1, ll_3, ll_5, ll_9, ll_10, ll_13, ll_14, ll_19, ll_20, ll_32, ll_60, ll_126, ll_799, ll_1024, ll_1048576, ll_67108864, Zladd, Zlsub, Zlmul, Zlneg, toL, lg_lt, lg_gt, lg_le, isAskM m n32, sM_s, gIv 98]
  · refine QOp.same (x := Zi (-2)) hR ?_ ?_
    · rw [fX11_may_d]
      simp (disch := omega) only [fX11_may_0, fX11_may_10, fX11_may_29, qbI_s, qbL_s, qbV_s, qbR_s, qbR_n, qbN_s, qbN_n, qbIX_s, qbIX_n, qbVX_s, qbVX_n, cond_true, cond_false, cond_dec, jadd, jsub, jmul, jneg, li_0, li_1, li_2, li_3, li_4, li_5, li_6, li_7, li_8, li_9, li_10, li_14, li_15, li_16, li_19, li_20, li_24, li_30, li_31, li_32, li_39, li_40, li_48, li_57, li_59, li_60, li_63, li_65, li_80, li_81, li_90, li_97, li_99, li_100, li_122, li_126, li_127, li_150, li_160, li_200, li_225, li_255, li_400, li_799, li_800, li_999, li_2400, li_3239, li_3240, li_1048575, li_1431655765, li_858993459, li_252645135, eqb_j, ltb_j, leb_j, inb_j, ix_j, ix_n, nz_b, nz_0, nz_1, eqb_b, bnot, vI_ne, vI_eq, gIL, gLI, gIR, gRI, gLR, gRL, Int.reduceLT, Int.reduceLE, Int.reduceEq, Int.reduceAdd, Int.reduceSub, Int.reduceMul, Int.reduceNeg, Int.reduceToNat, Nat.reduceEqDiff, reduceIte, if_neg, if_pos, gI_ne, isAskC m hAs, within_s, gIv 0, b1]
    · rw [fX13_may_d]
      simp (disch := omega) only [fX13_may_0, fX13_may_7, fX13_may_25, qbI_s, qbL_s, qbV_s, qbR_s, qbR_n, qbN_s, qbN_n, qbIX_s, qbIX_n, qbVX_s, qbVX_n, cond_true, cond_false, cond_dec, jadd, jsub, jmul, jneg, li_0, li_1, li_2, li_3, li_4, li_5, li_6, li_7, li_8, li_9, li_10, li_14, li_15, li_16, li_19, li_20, li_24, li_30, li_31, li_32, li_39, li_40, li_48, li_57, li_59, li_60, li_63, li_65, li_80, li_81, li_90, li_97, li_99, li_100, li_122, li_126, li_127, li_150, li_160, li_200, li_225, li_255, li_400, li_799, li_800, li_999, li_2400, li_3239, li_3240, li_1048575, li_1431655765, li_858993459, li_252645135, eqb_j, ltb_j, leb_j, inb_j, ix_j, ix_n, nz_b, nz_0, nz_1, eqb_b, bnot, vI_ne, vI_eq, gIL, gLI, gIR, gRI, gLR, gRL, Int.reduceLT, Int.reduceLE, Int.reduceEq, Int.reduceAdd, Int.reduceSub, Int.reduceMul, Int.reduceNeg, Int.reduceToNat, Nat.reduceEqDiff, reduceIte, if_neg, if_pos, gI_ne, ll_0, ll_1, ll_3, ll_5, ll_9, ll_10, ll_13, ll_14, ll_19, ll_20, ll_32, ll_60, ll_126, ll_799, ll_1024, ll_1048576, ll_67108864, Zladd, Zlsub, Zlmul, Zlneg, toL, lg_lt, lg_gt, lg_le, isAskM m n32, sM_s, gIv 98]
theorem op_lay (m : qM) (hR : R0 m) (a : Int) (b : Int) (ha0 : -2147483648 ≤ a ∧ a < 2147483648) (hb0 : -2147483648 ≤ b ∧ b < 2147483648) : QOp m (fX11_lay (Zi a) (Zi b)) (fX13_lay_ (Zi a) (Zi b)) := by
  have hR' := hR
  obtain ⟨⟨hT, hRd, hRu, hFo, hHa⟩, ⟨hPt, hPf, hAp, hWk⟩, ⟨hAs, hPa, hCl, hDi, hBi, hCn⟩, ⟨hTe, hBe, hNo, hPo⟩⟩ := hR'
  have b1 := hBe.1
  have b2 := hBe.2.1
  have bf : bI false = 0 := rfl
  have btr : bI true = 1 := rfl
  have n32 : 0 ≤ vI m 98 32 ∧ vI m 98 32 ≤ 40 := ⟨hAs.2.1, hAs.2.2.1⟩
  have n52 : 0 ≤ vI m 98 52 ∧ vI m 98 52 ≤ 80 := ⟨hTe.2.1, hTe.2.2.1⟩
  by_cases hq1 : 0 ≤ a ∧ a < vI m 98 32
  · obtain ⟨n, rfl⟩ : ∃ n : Nat, a = n := ⟨a.toNat, by omega⟩
    by_cases hq2 : 0 ≤ b ∧ b ≤ 19
    · obtain ⟨s, rfl⟩ : ∃ s : Nat, b = s := ⟨b.toNat, by omega⟩
      have hlc := laidC m hAs n hq1.2
      have k9 := vI_r m 125 n
      by_cases hl : vI m 125 n = -1
      · rw [show isLd (vI m) n = false from decide_eq_false (fun z => z hl)] at hlc
        by_cases hg : vI m 98 33 = 0
        · obtain ⟨x, x1, x2, x3⟩ := open_s m (vI m) (CAll.of hR) n hq1.2 hl
          have hx := has_s x s (by omega) m
          rw [x2 s (by omega)] at hx
          cases hw : mbV (vI m) n s
          · rw [hw] at hx
            have hy := mayBe_s m (MOk.of hR) n s hq1.2 (by omega) hl
            rw [hw] at hy
            refine QOp.same (x := Zi 0) hR ?_ ?_
            · rw [fX11_lay_d]
              simp (disch := omega) only [fX11_lay_0, fX11_lay_10, fX11_lay_20, qbI_s, qbL_s, qbV_s, qbR_s, qbR_n, qbN_s, qbN_n, qbIX_s, qbIX_n, qbVX_s, qbVX_n, cond_true, cond_false, cond_dec, jadd, jsub, jmul, jneg, li_0, li_1, li_2, li_3, li_4, li_5, li_6, li_7, li_8, li_9, li_10, li_14, li_15, li_16, li_19, li_20, li_24, li_30, li_31, li_32, li_39, li_40, li_48, li_57, li_59, li_60, li_63, li_65, li_80, li_81, li_90, li_97, li_99, li_100, li_122, li_126, li_127, li_150, li_160, li_200, li_225, li_255, li_400, li_799, li_800, li_999, li_2400, li_3239, li_3240, li_1048575, li_1431655765, li_858993459, li_252645135, eqb_j, ltb_j, leb_j, inb_j, ix_j, ix_n, nz_b, nz_0, nz_1, eqb_b, bnot, vI_ne, vI_eq, gIL, gLI, gIR, gRI, gLR, gRL, Int.reduceLT, Int.reduceLE, Int.reduceEq, Int.reduceAdd, Int.reduceSub, Int.reduceMul, Int.reduceNeg, Int.reduceToNat, Nat.reduceEqDiff, reduceIte, if_neg, if_pos, gI_ne, isAskC m hAs, within_s, hlc, bf, gIv 0, b1, hg, x1, hx]
            · rw [fX13_lay__d]
              simp (disch := omega) only [fX13_lay__0, fX13_lay__7, fX13_lay__18, qbI_s, qbL_s, qbV_s, qbR_s, qbR_n, qbN_s, qbN_n, qbIX_s, qbIX_n, qbVX_s, qbVX_n, cond_true, cond_false, cond_dec, jadd, jsub, jmul, jneg, li_0, li_1, li_2, li_3, li_4, li_5, li_6, li_7, li_8, li_9, li_10, li_14, li_15, li_16, li_19, li_20, li_24, li_30, li_31, li_32, li_39, li_40, li_48, li_57, li_59, li_60, li_63, li_65, li_80, li_81, li_90, li_97, li_99, li_100, li_122, li_126, li_127, li_150, li_160, li_200, li_225, li_255, li_400, li_799, li_800, li_999, li_2400, li_3239, li_3240, li_1048575, li_1431655765, li_858993459, li_252645135, eqb_j, ltb_j, leb_j, inb_j, ix_j, ix_n, nz_b, nz_0, nz_1, eqb_b, bnot, vI_ne, vI_eq, gIL, gLI, gIR, gRI, gLR, gRL, Int.reduceLT, Int.reduceLE, Int.reduceEq, Int.reduceAdd, Int.reduceSub, Int.reduceMul, Int.reduceNeg, Int.reduceToNat, Nat.reduceEqDiff, reduceIte, if_neg, if_pos, gI_ne, isAskM m n32, sM_s, gIv 125, gIv 98, hl, hg, hy, bf]
          · rw [hw] at hx
            obtain ⟨u, m1, g1, c1, f1⟩ := put_s m (vI m) (CAll.of hR) n s hq1.2 hl (by omega) (NC.of_mb hw)
            have q1 : ∀ c k, ¬ (c = 58 ∧ 13 ≤ k ∧ k ≤ 16 ∨ c = 62 ∨ 64 ≤ c ∧ c ≤ 67) → gI m1 c k = gI m c k := f1.1
            have hM1 : MOk m1 := (MOk.of hR).mono fun c k hc => q1 c k (by omega)
            have v1 : ∀ c k, 98 ≤ c → vI m1 c k = vI m c k := fun c k hc => vI_of (q1 c k (by omega))
            have hy := mayBe_s m1 hM1 n s (by rw [v1 98 32 (by omega)]; exact hq1.2) (by omega) (by rw [v1 125 n (by omega)]; exact hl)
            have hC2 : CAll (sI m1 125 n (Zi s)) (vI (sI m1 125 n (Zi s))) := c1.congr (fun c k hc => by rw [gI_ne (by omega)]) (fun c k hc => by
              unfold upS
              by_cases e : c = 125
              · subst e
                rw [vI_eq (by omega), if_pos rfl, v1 125 k (by omega)]
              · rw [vI_ne e, if_neg e]
                exact v1 c k (by unfold dP at hc; omega))
            refine QOp.ok (x := Zi 1) (y := Zi 1) (m1 := m1) (m2 := sI m1 125 n (Zi s)) ?_ ?_ rfl (R0.of_C hR (fun c k hc => ?_) (by rw [gR_sI]; exact f1.2.2) hC2) (Or.inl fun j hj => ?_)
            · rw [fX11_lay_d]
              simp (disch := omega) only [fX11_lay_0, fX11_lay_10, fX11_lay_20, qbI_s, qbL_s, qbV_s, qbR_s, qbR_n, qbN_s, qbN_n, qbIX_s, qbIX_n, qbVX_s, qbVX_n, cond_true, cond_false, cond_dec, jadd, jsub, jmul, jneg, li_0, li_1, li_2, li_3, li_4, li_5, li_6, li_7, li_8, li_9, li_10, li_14, li_15, li_16, li_19, li_20, li_24, li_30, li_31, li_32, li_39, li_40, li_48, li_57, li_59, li_60, li_63, li_65, li_80, li_81, li_90, li_97, li_99, li_100, li_122, li_126, li_127, li_150, li_160, li_200, li_225, li_255, li_400, li_799, li_800, li_999, li_2400, li_3239, li_3240, li_1048575, li_1431655765, li_858993459, li_252645135, eqb_j, ltb_j, leb_j, inb_j, ix_j, ix_n, nz_b, nz_0, nz_1, eqb_b, bnot, vI_ne, vI_eq, gIL, gLI, gIR, gRI, gLR, gRL, Int.reduceLT, Int.reduceLE, Int.reduceEq, Int.reduceAdd, Int.reduceSub, Int.reduceMul, Int.reduceNeg, Int.reduceToNat, Nat.reduceEqDiff, reduceIte, if_neg, if_pos, gI_ne, isAskC m hAs, within_s, hlc, bf, btr, gIv 0, b1, hg, x1, hx, g1]
            · have hwm : mbV (vI m1) n s = true := by
                have e : (fun c k => if 98 ≤ c then vI m1 c k else 0) = (fun c k => if 98 ≤ c then vI m c k else 0) := by
                  funext c k
                  by_cases e9 : 98 ≤ c
                  · rw [if_pos e9, if_pos e9, v1 c k e9]
                  · rw [if_neg e9, if_neg e9]
                rw [mb_mono (d := vI m) (d' := vI m1) (fun c k hc => v1 c k (by unfold dP at hc; omega))]
                exact hw
              rw [hwm] at hy
              rw [fX13_lay__d]
              simp (disch := omega) only [fX13_lay__0, fX13_lay__7, fX13_lay__18, qbI_s, qbL_s, qbV_s, qbR_s, qbR_n, qbN_s, qbN_n, qbIX_s, qbIX_n, qbVX_s, qbVX_n, cond_true, cond_false, cond_dec, jadd, jsub, jmul, jneg, li_0, li_1, li_2, li_3, li_4, li_5, li_6, li_7, li_8, li_9, li_10, li_14, li_15, li_16, li_19, li_20, li_24, li_30, li_31, li_32, li_39, li_40, li_48, li_57, li_59, li_60, li_63, li_65, li_80, li_81, li_90, li_97, li_99, li_100, li_122, li_126, li_127, li_150, li_160, li_200, li_225, li_255, li_400, li_799, li_800, li_999, li_2400, li_3239, li_3240, li_1048575, li_1431655765, li_858993459, li_252645135, eqb_j, ltb_j, leb_j, inb_j, ix_j, ix_n, nz_b, nz_0, nz_1, eqb_b, bnot, vI_ne, vI_eq, gIL, gLI, gIR, gRI, gLR, gRL, Int.reduceLT, Int.reduceLE, Int.reduceEq, Int.reduceAdd, Int.reduceSub, Int.reduceMul, Int.reduceNeg, Int.reduceToNat, Nat.reduceEqDiff, reduceIte, if_neg, if_pos, gI_ne, isAskM m1 (by rw [v1 98 32 (by omega)]; exact n32), sM_s, gIv 125, gIv 98, v1, hl, hg, hy, btr]
            · rw [gI_sI, if_neg (by omega)]
              exact q1 c k (by omega)
            · rw [vI_ne (by omega), vI_of (q1 83 j (by omega))]
              exact (hBe.2.2 hg).2 j hj
        · refine QOp.same (x := Zi (-4)) hR ?_ ?_
          · rw [fX11_lay_d]
            simp (disch := omega) only [fX11_lay_0, fX11_lay_10, fX11_lay_20, qbI_s, qbL_s, qbV_s, qbR_s, qbR_n, qbN_s, qbN_n, qbIX_s, qbIX_n, qbVX_s, qbVX_n, cond_true, cond_false, cond_dec, jadd, jsub, jmul, jneg, li_0, li_1, li_2, li_3, li_4, li_5, li_6, li_7, li_8, li_9, li_10, li_14, li_15, li_16, li_19, li_20, li_24, li_30, li_31, li_32, li_39, li_40, li_48, li_57, li_59, li_60, li_63, li_65, li_80, li_81, li_90, li_97, li_99, li_100, li_122, li_126, li_127, li_150, li_160, li_200, li_225, li_255, li_400, li_799, li_800, li_999, li_2400, li_3239, li_3240, li_1048575, li_1431655765, li_858993459, li_252645135, eqb_j, ltb_j, leb_j, inb_j, ix_j, ix_n, nz_b, nz_0, nz_1, eqb_b, bnot, vI_ne, vI_eq, gIL, gLI, gIR, gRI, gLR, gRL, Int.reduceLT, Int.reduceLE, Int.reduceEq, Int.reduceAdd, Int.reduceSub, Int.reduceMul, Int.reduceNeg, Int.reduceToNat, Nat.reduceEqDiff, reduceIte, if_neg, if_pos, gI_ne, isAskC m hAs, within_s, gIv 0, b1, hlc, bf]
          · rw [fX13_lay__d]
            simp (disch := omega) only [fX13_lay__0, fX13_lay__7, fX13_lay__18, qbI_s, qbL_s, qbV_s, qbR_s, qbR_n, qbN_s, qbN_n, qbIX_s, qbIX_n, qbVX_s, qbVX_n, cond_true, cond_false, cond_dec, jadd, jsub, jmul, jneg, li_0, li_1, li_2, li_3, li_4, li_5, li_6, li_7, li_8, li_9, li_10, li_14, li_15, li_16, li_19, li_20, li_24, li_30, li_31, li_32, li_39, li_40, li_48, li_57, li_59, li_60, li_63, li_65, li_80, li_81, li_90, li_97, li_99, li_100, li_122, li_126, li_127, li_150, li_160, li_200, li_225, li_255, li_400, li_799, li_800, li_999, li_2400, li_3239, li_3240, li_1048575, li_1431655765, li_858993459, li_252645135, eqb_j, ltb_j, leb_j, inb_j, ix_j, ix_n, nz_b, nz_0, nz_1, eqb_b, bnot, vI_ne, vI_eq, gIL, gLI, gIR, gRI, gLR, gRL, Int.reduceLT, Int.reduceLE, Int.reduceEq, Int.reduceAdd, Int.reduceSub, Int.reduceMul, Int.reduceNeg, Int.reduceToNat, Nat.reduceEqDiff, reduceIte, if_neg, if_pos, gI_ne, isAskM m n32, sM_s, gIv 98, gIv 125]
      · rw [show isLd (vI m) n = true from decide_eq_true hl] at hlc
        refine QOp.same (x := Zi (-4)) hR ?_ ?_
        · rw [fX11_lay_d]
          by_cases hg : vI m 98 33 = 0
          · simp (disch := omega) only [fX11_lay_0, fX11_lay_10, fX11_lay_20, qbI_s, qbL_s, qbV_s, qbR_s, qbR_n, qbN_s, qbN_n, qbIX_s, qbIX_n, qbVX_s, qbVX_n, cond_true, cond_false, cond_dec, jadd, jsub, jmul, jneg, li_0, li_1, li_2, li_3, li_4, li_5, li_6, li_7, li_8, li_9, li_10, li_14, li_15, li_16, li_19, li_20, li_24, li_30, li_31, li_32, li_39, li_40, li_48, li_57, li_59, li_60, li_63, li_65, li_80, li_81, li_90, li_97, li_99, li_100, li_122, li_126, li_127, li_150, li_160, li_200, li_225, li_255, li_400, li_799, li_800, li_999, li_2400, li_3239, li_3240, li_1048575, li_1431655765, li_858993459, li_252645135, eqb_j, ltb_j, leb_j, inb_j, ix_j, ix_n, nz_b, nz_0, nz_1, eqb_b, bnot, vI_ne, vI_eq, gIL, gLI, gIR, gRI, gLR, gRL, Int.reduceLT, Int.reduceLE, Int.reduceEq, Int.reduceAdd, Int.reduceSub, Int.reduceMul, Int.reduceNeg, Int.reduceToNat, Nat.reduceEqDiff, reduceIte, if_neg, if_pos, gI_ne, isAskC m hAs, within_s, gIv 0, b1, hlc, btr]
          · simp (disch := omega) only [fX11_lay_0, fX11_lay_10, fX11_lay_20, qbI_s, qbL_s, qbV_s, qbR_s, qbR_n, qbN_s, qbN_n, qbIX_s, qbIX_n, qbVX_s, qbVX_n, cond_true, cond_false, cond_dec, jadd, jsub, jmul, jneg, li_0, li_1, li_2, li_3, li_4, li_5, li_6, li_7, li_8, li_9, li_10, li_14, li_15, li_16, li_19, li_20, li_24, li_30, li_31, li_32, li_39, li_40, li_48, li_57, li_59, li_60, li_63, li_65, li_80, li_81, li_90, li_97, li_99, li_100, li_122, li_126, li_127, li_150, li_160, li_200, li_225, li_255, li_400, li_799, li_800, li_999, li_2400, li_3239, li_3240, li_1048575, li_1431655765, li_858993459, li_252645135, eqb_j, ltb_j, leb_j, inb_j, ix_j, ix_n, nz_b, nz_0, nz_1, eqb_b, bnot, vI_ne, vI_eq, gIL, gLI, gIR, gRI, gLR, gRL, Int.reduceLT, Int.reduceLE, Int.reduceEq, Int.reduceAdd, Int.reduceSub, Int.reduceMul, Int.reduceNeg, Int.reduceToNat, Nat.reduceEqDiff, reduceIte, if_neg, if_pos, gI_ne, isAskC m hAs, within_s, gIv 0, b1, hlc, btr]
        · rw [fX13_lay__d]
          simp (disch := omega) only [fX13_lay__0, fX13_lay__7, fX13_lay__18, qbI_s, qbL_s, qbV_s, qbR_s, qbR_n, qbN_s, qbN_n, qbIX_s, qbIX_n, qbVX_s, qbVX_n, cond_true, cond_false, cond_dec, jadd, jsub, jmul, jneg, li_0, li_1, li_2, li_3, li_4, li_5, li_6, li_7, li_8, li_9, li_10, li_14, li_15, li_16, li_19, li_20, li_24, li_30, li_31, li_32, li_39, li_40, li_48, li_57, li_59, li_60, li_63, li_65, li_80, li_81, li_90, li_97, li_99, li_100, li_122, li_126, li_127, li_150, li_160, li_200, li_225, li_255, li_400, li_799, li_800, li_999, li_2400, li_3239, li_3240, li_1048575, li_1431655765, li_858993459, li_252645135, eqb_j, ltb_j, leb_j, inb_j, ix_j, ix_n, nz_b, nz_0, nz_1, eqb_b, bnot, vI_ne, vI_eq, gIL, gLI, gIR, gRI, gLR, gRL, Int.reduceLT, Int.reduceLE, Int.reduceEq, Int.reduceAdd, Int.reduceSub, Int.reduceMul, Int.reduceNeg, Int.reduceToNat, Nat.reduceEqDiff, reduceIte, if_neg, if_pos, gI_ne, isAskM m n32, sM_s, gIv 98, gIv 125]
    · refine QOp.same (x := Zi (-2)) hR ?_ ?_
      · rw [fX11_lay_d]
        simp (disch := omega) only [fX11_lay_0, fX11_lay_10, fX11_lay_20, qbI_s, qbL_s, qbV_s, qbR_s, qbR_n, qbN_s, qbN_n, qbIX_s, qbIX_n, qbVX_s, qbVX_n, cond_true, cond_false, cond_dec, jadd, jsub, jmul, jneg, li_0, li_1, li_2, li_3, li_4, li_5, li_6, li_7, li_8, li_9, li_10, li_14, li_15, li_16, li_19, li_20, li_24, li_30, li_31, li_32, li_39, li_40, li_48, li_57, li_59, li_60, li_63, li_65, li_80, li_81, li_90, li_97, li_99, li_100, li_122, li_126, li_127, li_150, li_160, li_200, li_225, li_255, li_400, li_799, li_800, li_999, li_2400, li_3239, li_3240, li_1048575, li_1431655765, li_858993459, li_252645135, eqb_j, ltb_j, leb_j, inb_j, ix_j, ix_n, nz_b, nz_0, nz_1, eqb_b, bnot, vI_ne, vI_eq, gIL, gLI, gIR, gRI, gLR, gRL, Int.reduceLT, Int.reduceLE, Int.reduceEq, Int.reduceAdd, Int.reduceSub, Int.reduceMul, Int.reduceNeg, Int.reduceToNat, Nat.reduceEqDiff, reduceIte, if_neg, if_pos, gI_ne, isAskC m hAs, within_s, gIv 0, b1]
      · rw [fX13_lay__d]
        simp (disch := omega) only [fX13_lay__0, fX13_lay__7, fX13_lay__18, qbI_s, qbL_s, qbV_s, qbR_s, qbR_n, qbN_s, qbN_n, qbIX_s, qbIX_n, qbVX_s, qbVX_n, cond_true, cond_false, cond_dec, jadd, jsub, jmul, jneg, li_0, li_1, li_2, li_3, li_4, li_5, li_6, li_7, li_8, li_9, li_10, li_14, li_15, li_16, li_19, li_20, li_24, li_30, li_31, li_32, li_39, li_40, li_48, li_57, li_59, li_60, li_63, li_65, li_80, li_81, li_90, li_97, li_99, li_100, li_122, li_126, li_127, li_150, li_160, li_200, li_225, li_255, li_400, li_799, li_800, li_999, li_2400, li_3239, li_3240, li_1048575, li_1431655765, li_858993459, li_252645135, eqb_j, ltb_j, leb_j, inb_j, ix_j, ix_n, nz_b, nz_0, nz_1, eqb_b, bnot, vI_ne, vI_eq, gIL, gLI, gIR, gRI, gLR, gRL, Int.reduceLT, Int.reduceLE, Int.reduceEq, Int.reduceAdd, Int.reduceSub, Int.reduceMul, Int.reduceNeg, Int.reduceToNat, Nat.reduceEqDiff, reduceIte, if_neg, if_pos, gI_ne, ll_0, ll_1, ll_3, ll_5, ll_9, ll_10, ll_13, ll_14, ll_19, ll_20, ll_32, ll_60, ll_126, ll_799, ll_1024, ll_1048576, ll_67108864, Zladd, Zlsub, Zlmul, Zlneg, toL, lg_lt, lg_gt, lg_le, isAskM m n32, sM_s, gIv 98]
  · refine QOp.same (x := Zi (-2)) hR ?_ ?_
    · rw [fX11_lay_d]
      simp (disch := omega) only [fX11_lay_0, fX11_lay_10, fX11_lay_20, qbI_s, qbL_s, qbV_s, qbR_s, qbR_n, qbN_s, qbN_n, qbIX_s, qbIX_n, qbVX_s, qbVX_n, cond_true, cond_false, cond_dec, jadd, jsub, jmul, jneg, li_0, li_1, li_2, li_3, li_4, li_5, li_6, li_7, li_8, li_9, li_10, li_14, li_15, li_16, li_19, li_20, li_24, li_30, li_31, li_32, li_39, li_40, li_48, li_57, li_59, li_60, li_63, li_65, li_80, li_81, li_90, li_97, li_99, li_100, li_122, li_126, li_127, li_150, li_160, li_200, li_225, li_255, li_400, li_799, li_800, li_999, li_2400, li_3239, li_3240, li_1048575, li_1431655765, li_858993459, li_252645135, eqb_j, ltb_j, leb_j, inb_j, ix_j, ix_n, nz_b, nz_0, nz_1, eqb_b, bnot, vI_ne, vI_eq, gIL, gLI, gIR, gRI, gLR, gRL, Int.reduceLT, Int.reduceLE, Int.reduceEq, Int.reduceAdd, Int.reduceSub, Int.reduceMul, Int.reduceNeg, Int.reduceToNat, Nat.reduceEqDiff, reduceIte, if_neg, if_pos, gI_ne, isAskC m hAs, within_s, gIv 0, b1]
    · rw [fX13_lay__d]
      simp (disch := omega) only [fX13_lay__0, fX13_lay__7, fX13_lay__18, qbI_s, qbL_s, qbV_s, qbR_s, qbR_n, qbN_s, qbN_n, qbIX_s, qbIX_n, qbVX_s, qbVX_n, cond_true, cond_false, cond_dec, jadd, jsub, jmul, jneg, li_0, li_1, li_2, li_3, li_4, li_5, li_6, li_7, li_8, li_9, li_10, li_14, li_15, li_16, li_19, li_20, li_24, li_30, li_31, li_32, li_39, li_40, li_48, li_57, li_59, li_60, li_63, li_65, li_80, li_81, li_90, li_97, li_99, li_100, li_122, li_126, li_127, li_150, li_160, li_200, li_225, li_255, li_400, li_799, li_800, li_999, li_2400, li_3239, li_3240, li_1048575, li_1431655765, li_858993459, li_252645135, eqb_j, ltb_j, leb_j, inb_j, ix_j, ix_n, nz_b, nz_0, nz_1, eqb_b, bnot, vI_ne, vI_eq, gIL, gLI, gIR, gRI, gLR, gRL, Int.reduceLT, Int.reduceLE, Int.reduceEq, Int.reduceAdd, Int.reduceSub, Int.reduceMul, Int.reduceNeg, Int.reduceToNat, Nat.reduceEqDiff, reduceIte, if_neg, if_pos, gI_ne, ll_0, ll_1, ll_3, ll_5, ll_9, ll_10, ll_13, ll_14, ll_19, ll_20, ll_32, ll_60, ll_126, ll_799, ll_1024, ll_1048576, ll_67108864, Zladd, Zlsub, Zlmul, Zlneg, toL, lg_lt, lg_gt, lg_le, isAskM m n32, sM_s, gIv 98]
theorem op_lift (m : qM) (hR : R0 m) (a : Int) (ha0 : -2147483648 ≤ a ∧ a < 2147483648) : QOp m (fX11_lift (Zi a)) (fX13_lift (Zi a)) := by
  have hR' := hR
  obtain ⟨⟨hT, hRd, hRu, hFo, hHa⟩, ⟨hPt, hPf, hAp, hWk⟩, ⟨hAs, hPa, hCl, hDi, hBi, hCn⟩, ⟨hTe, hBe, hNo, hPo⟩⟩ := hR'
  have b1 := hBe.1
  have b2 := hBe.2.1
  have bf : bI false = 0 := rfl
  have btr : bI true = 1 := rfl
  have n32 : 0 ≤ vI m 98 32 ∧ vI m 98 32 ≤ 40 := ⟨hAs.2.1, hAs.2.2.1⟩
  have n52 : 0 ≤ vI m 98 52 ∧ vI m 98 52 ≤ 80 := ⟨hTe.2.1, hTe.2.2.1⟩
  by_cases hq1 : 0 ≤ a ∧ a < vI m 98 32
  · obtain ⟨n, rfl⟩ : ∃ n : Nat, a = n := ⟨a.toNat, by omega⟩
    have hlc := laidC m hAs n hq1.2
    have k9 := (hAs.2.2.2 n hq1.2).2.2.2
    by_cases hg : vI m 98 33 = 0
    · by_cases hl : vI m 125 n = -1
      · rw [show isLd (vI m) n = false from decide_eq_false (fun z => z hl)] at hlc
        refine QOp.same (x := Zi (-4)) hR ?_ ?_
        · rw [fX11_lift_d]
          simp (disch := omega) only [fX11_lift_0, fX11_lift_15, qbI_s, qbL_s, qbV_s, qbR_s, qbR_n, qbN_s, qbN_n, qbIX_s, qbIX_n, qbVX_s, qbVX_n, cond_true, cond_false, cond_dec, jadd, jsub, jmul, jneg, li_0, li_1, li_2, li_3, li_4, li_5, li_6, li_7, li_8, li_9, li_10, li_14, li_15, li_16, li_19, li_20, li_24, li_30, li_31, li_32, li_39, li_40, li_48, li_57, li_59, li_60, li_63, li_65, li_80, li_81, li_90, li_97, li_99, li_100, li_122, li_126, li_127, li_150, li_160, li_200, li_225, li_255, li_400, li_799, li_800, li_999, li_2400, li_3239, li_3240, li_1048575, li_1431655765, li_858993459, li_252645135, eqb_j, ltb_j, leb_j, inb_j, ix_j, ix_n, nz_b, nz_0, nz_1, eqb_b, bnot, vI_ne, vI_eq, gIL, gLI, gIR, gRI, gLR, gRL, Int.reduceLT, Int.reduceLE, Int.reduceEq, Int.reduceAdd, Int.reduceSub, Int.reduceMul, Int.reduceNeg, Int.reduceToNat, Nat.reduceEqDiff, reduceIte, if_neg, if_pos, gI_ne, isAskC m hAs, gIv 0, b1, hg, hlc, bf]
        · rw [fX13_lift_d]
          simp (disch := omega) only [fX13_lift_0, fX13_lift_15, qbI_s, qbL_s, qbV_s, qbR_s, qbR_n, qbN_s, qbN_n, qbIX_s, qbIX_n, qbVX_s, qbVX_n, cond_true, cond_false, cond_dec, jadd, jsub, jmul, jneg, li_0, li_1, li_2, li_3, li_4, li_5, li_6, li_7, li_8, li_9, li_10, li_14, li_15, li_16, li_19, li_20, li_24, li_30, li_31, li_32, li_39, li_40, li_48, li_57, li_59, li_60, li_63, li_65, li_80, li_81, li_90, li_97, li_99, li_100, li_122, li_126, li_127, li_150, li_160, li_200, li_225, li_255, li_400, li_799, li_800, li_999, li_2400, li_3239, li_3240, li_1048575, li_1431655765, li_858993459, li_252645135, eqb_j, ltb_j, leb_j, inb_j, ix_j, ix_n, nz_b, nz_0, nz_1, eqb_b, bnot, vI_ne, vI_eq, gIL, gLI, gIR, gRI, gLR, gRL, Int.reduceLT, Int.reduceLE, Int.reduceEq, Int.reduceAdd, Int.reduceSub, Int.reduceMul, Int.reduceNeg, Int.reduceToNat, Nat.reduceEqDiff, reduceIte, if_neg, if_pos, gI_ne, isAskM m n32, gIv 98, gIv 125, hg]
      · rw [show isLd (vI m) n = true from decide_eq_true hl] at hlc
        obtain ⟨s, hs⟩ : ∃ s : Nat, vI m 125 n = s := ⟨(vI m 125 n).toNat, by omega⟩
        obtain ⟨x, m1, g1, hx, c1, f1⟩ := take_s m (vI m) (CAll.of hR) n s hq1.2 hs (by omega)
        subst hx
        have q1 : ∀ c k, ¬ (c = 58 ∧ 13 ≤ k ∧ k ≤ 16 ∨ c = 62 ∨ 64 ≤ c ∧ c ≤ 67) → gI m1 c k = gI m c k := f1.1
        have v1 : ∀ c k, 98 ≤ c → vI m1 c k = vI m c k := fun c k hc => vI_of (q1 c k (by omega))
        have hC2 : CAll (sI m1 125 n (Zi (-1))) (vI (sI m1 125 n (Zi (-1)))) := c1.congr (fun c k hc => by rw [gI_ne (by omega)]) (fun c k hc => by
          unfold upS
          by_cases e : c = 125
          · subst e
            rw [vI_eq (by omega), if_pos rfl, v1 125 k (by omega)]
          · rw [vI_ne e, if_neg e]
            exact v1 c k (by unfold dP at hc; omega))
        refine QOp.ok (x := Zi s) (y := Zi s) (m1 := m1) (m2 := sI m1 125 n (Zi (-1))) ?_ ?_ rfl (R0.of_C hR (fun c k hc => ?_) (by rw [gR_sI]; exact f1.2.2) hC2) (Or.inl fun j hj => ?_)
        · rw [fX11_lift_d]
          simp (disch := omega) only [fX11_lift_0, fX11_lift_15, qbI_s, qbL_s, qbV_s, qbR_s, qbR_n, qbN_s, qbN_n, qbIX_s, qbIX_n, qbVX_s, qbVX_n, cond_true, cond_false, cond_dec, jadd, jsub, jmul, jneg, li_0, li_1, li_2, li_3, li_4, li_5, li_6, li_7, li_8, li_9, li_10, li_14, li_15, li_16, li_19, li_20, li_24, li_30, li_31, li_32, li_39, li_40, li_48, li_57, li_59, li_60, li_63, li_65, li_80, li_81, li_90, li_97, li_99, li_100, li_122, li_126, li_127, li_150, li_160, li_200, li_225, li_255, li_400, li_799, li_800, li_999, li_2400, li_3239, li_3240, li_1048575, li_1431655765, li_858993459, li_252645135, eqb_j, ltb_j, leb_j, inb_j, ix_j, ix_n, nz_b, nz_0, nz_1, eqb_b, bnot, vI_ne, vI_eq, gIL, gLI, gIR, gRI, gLR, gRL, Int.reduceLT, Int.reduceLE, Int.reduceEq, Int.reduceAdd, Int.reduceSub, Int.reduceMul, Int.reduceNeg, Int.reduceToNat, Nat.reduceEqDiff, reduceIte, if_neg, if_pos, gI_ne, isAskC m hAs, gIv 0, b1, hg, hlc, btr, g1]
        · rw [fX13_lift_d]
          simp (disch := omega) only [fX13_lift_0, fX13_lift_15, qbI_s, qbL_s, qbV_s, qbR_s, qbR_n, qbN_s, qbN_n, qbIX_s, qbIX_n, qbVX_s, qbVX_n, cond_true, cond_false, cond_dec, jadd, jsub, jmul, jneg, li_0, li_1, li_2, li_3, li_4, li_5, li_6, li_7, li_8, li_9, li_10, li_14, li_15, li_16, li_19, li_20, li_24, li_30, li_31, li_32, li_39, li_40, li_48, li_57, li_59, li_60, li_63, li_65, li_80, li_81, li_90, li_97, li_99, li_100, li_122, li_126, li_127, li_150, li_160, li_200, li_225, li_255, li_400, li_799, li_800, li_999, li_2400, li_3239, li_3240, li_1048575, li_1431655765, li_858993459, li_252645135, eqb_j, ltb_j, leb_j, inb_j, ix_j, ix_n, nz_b, nz_0, nz_1, eqb_b, bnot, vI_ne, vI_eq, gIL, gLI, gIR, gRI, gLR, gRL, Int.reduceLT, Int.reduceLE, Int.reduceEq, Int.reduceAdd, Int.reduceSub, Int.reduceMul, Int.reduceNeg, Int.reduceToNat, Nat.reduceEqDiff, reduceIte, if_neg, if_pos, gI_ne, isAskM m1 (by rw [v1 98 32 (by omega)]; exact n32), gIv 98, gIv 125, v1, hg, hs]
        · rw [gI_sI, if_neg (by omega)]
          exact q1 c k (by omega)
        · rw [vI_ne (by omega), vI_of (q1 83 j (by omega))]
          exact (hBe.2.2 hg).2 j hj
    · refine QOp.same (x := Zi (-4)) hR ?_ ?_
      · rw [fX11_lift_d]
        simp (disch := omega) only [fX11_lift_0, fX11_lift_15, qbI_s, qbL_s, qbV_s, qbR_s, qbR_n, qbN_s, qbN_n, qbIX_s, qbIX_n, qbVX_s, qbVX_n, cond_true, cond_false, cond_dec, jadd, jsub, jmul, jneg, li_0, li_1, li_2, li_3, li_4, li_5, li_6, li_7, li_8, li_9, li_10, li_14, li_15, li_16, li_19, li_20, li_24, li_30, li_31, li_32, li_39, li_40, li_48, li_57, li_59, li_60, li_63, li_65, li_80, li_81, li_90, li_97, li_99, li_100, li_122, li_126, li_127, li_150, li_160, li_200, li_225, li_255, li_400, li_799, li_800, li_999, li_2400, li_3239, li_3240, li_1048575, li_1431655765, li_858993459, li_252645135, eqb_j, ltb_j, leb_j, inb_j, ix_j, ix_n, nz_b, nz_0, nz_1, eqb_b, bnot, vI_ne, vI_eq, gIL, gLI, gIR, gRI, gLR, gRL, Int.reduceLT, Int.reduceLE, Int.reduceEq, Int.reduceAdd, Int.reduceSub, Int.reduceMul, Int.reduceNeg, Int.reduceToNat, Nat.reduceEqDiff, reduceIte, if_neg, if_pos, gI_ne, isAskC m hAs, gIv 0, b1]
      · rw [fX13_lift_d]
        simp (disch := omega) only [fX13_lift_0, fX13_lift_15, qbI_s, qbL_s, qbV_s, qbR_s, qbR_n, qbN_s, qbN_n, qbIX_s, qbIX_n, qbVX_s, qbVX_n, cond_true, cond_false, cond_dec, jadd, jsub, jmul, jneg, li_0, li_1, li_2, li_3, li_4, li_5, li_6, li_7, li_8, li_9, li_10, li_14, li_15, li_16, li_19, li_20, li_24, li_30, li_31, li_32, li_39, li_40, li_48, li_57, li_59, li_60, li_63, li_65, li_80, li_81, li_90, li_97, li_99, li_100, li_122, li_126, li_127, li_150, li_160, li_200, li_225, li_255, li_400, li_799, li_800, li_999, li_2400, li_3239, li_3240, li_1048575, li_1431655765, li_858993459, li_252645135, eqb_j, ltb_j, leb_j, inb_j, ix_j, ix_n, nz_b, nz_0, nz_1, eqb_b, bnot, vI_ne, vI_eq, gIL, gLI, gIR, gRI, gLR, gRL, Int.reduceLT, Int.reduceLE, Int.reduceEq, Int.reduceAdd, Int.reduceSub, Int.reduceMul, Int.reduceNeg, Int.reduceToNat, Nat.reduceEqDiff, reduceIte, if_neg, if_pos, gI_ne, isAskM m n32, gIv 98, gIv 125]
        split <;> rfl
  · refine QOp.same (x := Zi (-2)) hR ?_ ?_
    · rw [fX11_lift_d]
      simp (disch := omega) only [fX11_lift_0, fX11_lift_15, qbI_s, qbL_s, qbV_s, qbR_s, qbR_n, qbN_s, qbN_n, qbIX_s, qbIX_n, qbVX_s, qbVX_n, cond_true, cond_false, cond_dec, jadd, jsub, jmul, jneg, li_0, li_1, li_2, li_3, li_4, li_5, li_6, li_7, li_8, li_9, li_10, li_14, li_15, li_16, li_19, li_20, li_24, li_30, li_31, li_32, li_39, li_40, li_48, li_57, li_59, li_60, li_63, li_65, li_80, li_81, li_90, li_97, li_99, li_100, li_122, li_126, li_127, li_150, li_160, li_200, li_225, li_255, li_400, li_799, li_800, li_999, li_2400, li_3239, li_3240, li_1048575, li_1431655765, li_858993459, li_252645135, eqb_j, ltb_j, leb_j, inb_j, ix_j, ix_n, nz_b, nz_0, nz_1, eqb_b, bnot, vI_ne, vI_eq, gIL, gLI, gIR, gRI, gLR, gRL, Int.reduceLT, Int.reduceLE, Int.reduceEq, Int.reduceAdd, Int.reduceSub, Int.reduceMul, Int.reduceNeg, Int.reduceToNat, Nat.reduceEqDiff, reduceIte, if_neg, if_pos, gI_ne, isAskC m hAs, within_s, gIv 0, b1]
    · rw [fX13_lift_d]
      simp (disch := omega) only [fX13_lift_0, fX13_lift_15, qbI_s, qbL_s, qbV_s, qbR_s, qbR_n, qbN_s, qbN_n, qbIX_s, qbIX_n, qbVX_s, qbVX_n, cond_true, cond_false, cond_dec, jadd, jsub, jmul, jneg, li_0, li_1, li_2, li_3, li_4, li_5, li_6, li_7, li_8, li_9, li_10, li_14, li_15, li_16, li_19, li_20, li_24, li_30, li_31, li_32, li_39, li_40, li_48, li_57, li_59, li_60, li_63, li_65, li_80, li_81, li_90, li_97, li_99, li_100, li_122, li_126, li_127, li_150, li_160, li_200, li_225, li_255, li_400, li_799, li_800, li_999, li_2400, li_3239, li_3240, li_1048575, li_1431655765, li_858993459, li_252645135, eqb_j, ltb_j, leb_j, inb_j, ix_j, ix_n, nz_b, nz_0, nz_1, eqb_b, bnot, vI_ne, vI_eq, gIL, gLI, gIR, gRI, gLR, gRL, Int.reduceLT, Int.reduceLE, Int.reduceEq, Int.reduceAdd, Int.reduceSub, Int.reduceMul, Int.reduceNeg, Int.reduceToNat, Nat.reduceEqDiff, reduceIte, if_neg, if_pos, gI_ne, ll_0, ll_1, ll_3, ll_5, ll_9, ll_10, ll_13, ll_14, ll_19, ll_20, ll_32, ll_60, ll_126, ll_799, ll_1024, ll_1048576, ll_67108864, Zladd, Zlsub, Zlmul, Zlneg, toL, lg_lt, lg_gt, lg_le, isAskM m n32, sM_s, gIv 98]
