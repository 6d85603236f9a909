/-! the evening: away; what an act comes to -/
def awy (d : Nat → Nat → Int) (K t : Nat) (u : Int) : Prop := ∃ k : Nat, k < K ∧ d 135 k = 3 ∧ d 136 k = t ∧ d 137 k ≤ u ∧ u ≤ d 138 k
/-- what is told, as far as it is known -/
def TLd (d : Nat → Nat → Int) (K : Nat) : Prop := ∀ k : Nat, k < K → (d 135 k = 0 ∧ 0 ≤ d 136 k ∧ d 136 k < d 98 32 ∧ 0 ≤ d 137 k ∧ d 137 k ≤ 60) ∨ (d 135 k = 1 ∧ 0 ≤ d 136 k ∧ d 136 k < d 98 32 ∧ (d 137 k = 0 ∨ d 137 k = 1)) ∨ (d 135 k = 2 ∧ 0 ≤ d 136 k ∧ d 136 k ≤ 14 ∧ 0 ≤ d 137 k ∧ d 137 k ≤ 799) ∨ (d 135 k = 3 ∧ 0 ≤ d 136 k ∧ d 136 k ≤ 9 ∧ 0 ≤ d 137 k ∧ d 137 k ≤ d 138 k ∧ d 138 k ≤ 799)
theorem TLd.of {m0 : qM} (hR : R0 m0) (K : Nat) (hK : (K : Int) ≤ vI m0 98 52) : TLd (vI m0) K := fun k hk => (hR.2.2.2.1.2.2.2.2.1 k (by omega)).2.2
theorem awayM {d s : Nat → Nat → Int} {K : Nat} {v : qM} (h : MS d s K v) (hT : TLd d K) (t : Nat) (ht : t < 10) (u : Int) (hu : 0 ≤ u ∧ u ≤ 799) : fX13_isAway (Zi t) (Zi u) v = some (Zi (bI (pd (awy d K t u))), v) := by
  obtain ⟨h1, h2, k1, k2, k3, k4, k5, k6⟩ := h
  have loop : ∀ (r i g : Nat), i + r = K → r < g → fX13_isAway_2 fX13_isAway_43 g (Zi t) (Zi u) (Zi i) v = some (Zi (bI (pd (∃ k : Nat, i ≤ k ∧ k < K ∧ d 135 k = 3 ∧ d 136 k = t ∧ d 137 k ≤ u ∧ u ≤ d 138 k))), v) := by
    intro r
    induction r with
    | zero =>
      intro i g hi hg
      obtain ⟨g, rfl⟩ : ∃ g', g = g' + 1 := ⟨g - 1, by omega⟩
      have hiK : i = K := by omega
      subst hiK
      rw [pd_f (fun ⟨k, q1, q2, _⟩ => by omega)]
      have r134 := vI_r v 134 i
      rcases k6 with k6 | k6
      · simp (disch := omega) only [fX13_isAway_2, fX13_isAway_43, qbI_s, qbL_s, qbV_s, qbR_s, qbR_n, qbN_s, qbN_n, qbIX_s, qbIX_n, qbVX_s, qbVX_n, cond_true, cond_false, cond_dec, jadd, jsub, jmul, jneg, li_0, li_1, li_2, li_3, li_4, li_5, li_6, li_7, li_8, li_9, li_10, li_14, li_15, li_16, li_19, li_20, li_24, li_30, li_31, li_32, li_39, li_40, li_48, li_57, li_59, li_60, li_63, li_65, li_80, li_81, li_90, li_97, li_99, li_100, li_122, li_126, li_127, li_150, li_160, li_200, li_225, li_255, li_400, li_799, li_800, li_999, li_2400, li_3239, li_3240, li_1048575, li_1431655765, li_858993459, li_252645135, eqb_j, ltb_j, leb_j, inb_j, ix_j, ix_n, nz_b, nz_0, nz_1, eqb_b, bnot, vI_ne, vI_eq, gIL, gLI, gIR, gRI, gLR, gRL, Int.reduceLT, Int.reduceLE, Int.reduceEq, Int.reduceAdd, Int.reduceSub, Int.reduceMul, Int.reduceNeg, Int.reduceToNat, Nat.reduceEqDiff, reduceIte, if_neg, if_pos, gI_ne, gIv 98]
        rfl
      · by_cases g1 : vI v 98 52 ≤ i
        · simp (disch := omega) only [fX13_isAway_2, fX13_isAway_43, qbI_s, qbL_s, qbV_s, qbR_s, qbR_n, qbN_s, qbN_n, qbIX_s, qbIX_n, qbVX_s, qbVX_n, cond_true, cond_false, cond_dec, jadd, jsub, jmul, jneg, li_0, li_1, li_2, li_3, li_4, li_5, li_6, li_7, li_8, li_9, li_10, li_14, li_15, li_16, li_19, li_20, li_24, li_30, li_31, li_32, li_39, li_40, li_48, li_57, li_59, li_60, li_63, li_65, li_80, li_81, li_90, li_97, li_99, li_100, li_122, li_126, li_127, li_150, li_160, li_200, li_225, li_255, li_400, li_799, li_800, li_999, li_2400, li_3239, li_3240, li_1048575, li_1431655765, li_858993459, li_252645135, eqb_j, ltb_j, leb_j, inb_j, ix_j, ix_n, nz_b, nz_0, nz_1, eqb_b, bnot, vI_ne, vI_eq, gIL, gLI, gIR, gRI, gLR, gRL, Int.reduceLT, Int.reduceLE, Int.reduceEq, Int.reduceAdd, Int.reduceSub, Int.reduceMul, Int.reduceNeg, Int.reduceToNat, Nat.reduceEqDiff, reduceIte, if_neg, if_pos, gI_ne, gIv 98]
          rfl
        · simp (disch := omega) only [fX13_isAway_2, fX13_isAway_43, qbI_s, qbL_s, qbV_s, qbR_s, qbR_n, qbN_s, qbN_n, qbIX_s, qbIX_n, qbVX_s, qbVX_n, cond_true, cond_false, cond_dec, jadd, jsub, jmul, jneg, li_0, li_1, li_2, li_3, li_4, li_5, li_6, li_7, li_8, li_9, li_10, li_14, li_15, li_16, li_19, li_20, li_24, li_30, li_31, li_32, li_39, li_40, li_48, li_57, li_59, li_60, li_63, li_65, li_80, li_81, li_90, li_97, li_99, li_100, li_122, li_126, li_127, li_150, li_160, li_200, li_225, li_255, li_400, li_799, li_800, li_999, li_2400, li_3239, li_3240, li_1048575, li_1431655765, li_858993459, li_252645135, eqb_j, ltb_j, leb_j, inb_j, ix_j, ix_n, nz_b, nz_0, nz_1, eqb_b, bnot, vI_ne, vI_eq, gIL, gLI, gIR, gRI, gLR, gRL, Int.reduceLT, Int.reduceLE, Int.reduceEq, Int.reduceAdd, Int.reduceSub, Int.reduceMul, Int.reduceNeg, Int.reduceToNat, Nat.reduceEqDiff, reduceIte, if_neg, if_pos, gI_ne, gIv 98, gIv 134]
          rfl
    | succ r ih =>
      intro i g hi hg
      obtain ⟨g, rfl⟩ : ∃ g', g = g' + 1 := ⟨g - 1, by omega⟩
      have ih2 := ih (i + 1) g (by omega) (by omega)
      have e134 := k4 i (by omega) 134 (by omega) (by omega)
      have e135 := k4 i (by omega) 135 (by omega) (by omega)
      have e136 := k4 i (by omega) 136 (by omega) (by omega)
      have e137 := k4 i (by omega) 137 (by omega) (by omega)
      have e138 := k4 i (by omega) 138 (by omega) (by omega)
      have hle := k5 i (by omega)
      have r134 := vI_r v 134 i
      have hTi := hT i (by omega)
      have no : ¬ (d 135 i = 3 ∧ d 136 i = t ∧ d 137 i ≤ u ∧ u ≤ d 138 i) → pd (∃ k : Nat, i ≤ k ∧ k < K ∧ d 135 k = 3 ∧ d 136 k = t ∧ d 137 k ≤ u ∧ u ≤ d 138 k) = pd (∃ k : Nat, i + 1 ≤ k ∧ k < K ∧ d 135 k = 3 ∧ d 136 k = t ∧ d 137 k ≤ u ∧ u ≤ d 138 k) := fun hn => by
        rw [Bool.eq_iff_iff, pd_iff, pd_iff]
        constructor
        · rintro ⟨k, q1, q2, q3⟩
          by_cases e : k = i
          · rw [e] at q3; exact absurd q3 hn
          · exact ⟨k, by omega, q2, q3⟩
        · rintro ⟨k, q1, q2, q3⟩
          exact ⟨k, by omega, q2, q3⟩
      by_cases g1 : d 135 i = 3
      · have hq : (0 ≤ d 136 i ∧ d 136 i ≤ 9) ∧ 0 ≤ d 137 i ∧ d 137 i ≤ d 138 i ∧ d 138 i ≤ 799 := by omega
        by_cases g2 : d 136 i = t
        · by_cases g3 : d 137 i ≤ u ∧ u ≤ d 138 i
          · rw [pd_t ⟨i, Nat.le_refl _, by omega, g1, g2, g3⟩]
            simp (disch := omega) only [fX13_isAway_2, qbI_s, qbL_s, qbV_s, qbR_s, qbR_n, qbN_s, qbN_n, qbIX_s, qbIX_n, qbVX_s, qbVX_n, cond_true, cond_false, cond_dec, jadd, jsub, jmul, jneg, li_0, li_1, li_2, li_3, li_4, li_5, li_6, li_7, li_8, li_9, li_10, li_14, li_15, li_16, li_19, li_20, li_24, li_30, li_31, li_32, li_39, li_40, li_48, li_57, li_59, li_60, li_63, li_65, li_80, li_81, li_90, li_97, li_99, li_100, li_122, li_126, li_127, li_150, li_160, li_200, li_225, li_255, li_400, li_799, li_800, li_999, li_2400, li_3239, li_3240, li_1048575, li_1431655765, li_858993459, li_252645135, eqb_j, ltb_j, leb_j, inb_j, ix_j, ix_n, nz_b, nz_0, nz_1, eqb_b, bnot, vI_ne, vI_eq, gIL, gLI, gIR, gRI, gLR, gRL, Int.reduceLT, Int.reduceLE, Int.reduceEq, Int.reduceAdd, Int.reduceSub, Int.reduceMul, Int.reduceNeg, Int.reduceToNat, Nat.reduceEqDiff, reduceIte, if_neg, if_pos, gI_ne, ll_0, ll_1, ll_3, ll_5, ll_9, ll_10, ll_13, ll_14, ll_19, ll_20, ll_32, ll_60, ll_126, ll_799, ll_1024, ll_1048576, ll_67108864, Zladd, Zlsub, Zlmul, Zlneg, toL, lg_lt, lg_gt, lg_le, gIv 98, gIv 134, e134, gIv 135, e135, g1, gIv 136, e136, g2, gIv 137, e137, gIv 138, e138, in_s, bI_dec]
            rfl
          · rw [no fun z => g3 z.2.2]
            simp (disch := omega) only [fX13_isAway_2, fX13_isAway_41, qbI_s, qbL_s, qbV_s, qbR_s, qbR_n, qbN_s, qbN_n, qbIX_s, qbIX_n, qbVX_s, qbVX_n, cond_true, cond_false, cond_dec, jadd, jsub, jmul, jneg, li_0, li_1, li_2, li_3, li_4, li_5, li_6, li_7, li_8, li_9, li_10, li_14, li_15, li_16, li_19, li_20, li_24, li_30, li_31, li_32, li_39, li_40, li_48, li_57, li_59, li_60, li_63, li_65, li_80, li_81, li_90, li_97, li_99, li_100, li_122, li_126, li_127, li_150, li_160, li_200, li_225, li_255, li_400, li_799, li_800, li_999, li_2400, li_3239, li_3240, li_1048575, li_1431655765, li_858993459, li_252645135, eqb_j, ltb_j, leb_j, inb_j, ix_j, ix_n, nz_b, nz_0, nz_1, eqb_b, bnot, vI_ne, vI_eq, gIL, gLI, gIR, gRI, gLR, gRL, Int.reduceLT, Int.reduceLE, Int.reduceEq, Int.reduceAdd, Int.reduceSub, Int.reduceMul, Int.reduceNeg, Int.reduceToNat, Nat.reduceEqDiff, reduceIte, if_neg, if_pos, gI_ne, ll_0, ll_1, ll_3, ll_5, ll_9, ll_10, ll_13, ll_14, ll_19, ll_20, ll_32, ll_60, ll_126, ll_799, ll_1024, ll_1048576, ll_67108864, Zladd, Zlsub, Zlmul, Zlneg, toL, lg_lt, lg_gt, lg_le, gIv 98, gIv 134, e134, gIv 135, e135, g1, gIv 136, e136, g2, gIv 137, e137, gIv 138, e138, in_s, bI_dec]
            exact ih2
        · rw [no fun z => g2 z.2.1]
          simp (disch := omega) only [fX13_isAway_2, fX13_isAway_41, qbI_s, qbL_s, qbV_s, qbR_s, qbR_n, qbN_s, qbN_n, qbIX_s, qbIX_n, qbVX_s, qbVX_n, cond_true, cond_false, cond_dec, jadd, jsub, jmul, jneg, li_0, li_1, li_2, li_3, li_4, li_5, li_6, li_7, li_8, li_9, li_10, li_14, li_15, li_16, li_19, li_20, li_24, li_30, li_31, li_32, li_39, li_40, li_48, li_57, li_59, li_60, li_63, li_65, li_80, li_81, li_90, li_97, li_99, li_100, li_122, li_126, li_127, li_150, li_160, li_200, li_225, li_255, li_400, li_799, li_800, li_999, li_2400, li_3239, li_3240, li_1048575, li_1431655765, li_858993459, li_252645135, eqb_j, ltb_j, leb_j, inb_j, ix_j, ix_n, nz_b, nz_0, nz_1, eqb_b, bnot, vI_ne, vI_eq, gIL, gLI, gIR, gRI, gLR, gRL, Int.reduceLT, Int.reduceLE, Int.reduceEq, Int.reduceAdd, Int.reduceSub, Int.reduceMul, Int.reduceNeg, Int.reduceToNat, Nat.reduceEqDiff, reduceIte, if_neg, if_pos, gI_ne, gIv 98, gIv 134, e134, gIv 135, e135, g1, gIv 136, e136]
          exact ih2
      · rw [no fun z => g1 z.1]
        simp (disch := omega) only [fX13_isAway_2, fX13_isAway_41, qbI_s, qbL_s, qbV_s, qbR_s, qbR_n, qbN_s, qbN_n, qbIX_s, qbIX_n, qbVX_s, qbVX_n, cond_true, cond_false, cond_dec, jadd, jsub, jmul, jneg, li_0, li_1, li_2, li_3, li_4, li_5, li_6, li_7, li_8, li_9, li_10, li_14, li_15, li_16, li_19, li_20, li_24, li_30, li_31, li_32, li_39, li_40, li_48, li_57, li_59, li_60, li_63, li_65, li_80, li_81, li_90, li_97, li_99, li_100, li_122, li_126, li_127, li_150, li_160, li_200, li_225, li_255, li_400, li_799, li_800, li_999, li_2400, li_3239, li_3240, li_1048575, li_1431655765, li_858993459, li_252645135, eqb_j, ltb_j, leb_j, inb_j, ix_j, ix_n, nz_b, nz_0, nz_1, eqb_b, bnot, vI_ne, vI_eq, gIL, gLI, gIR, gRI, gLR, gRL, Int.reduceLT, Int.reduceLE, Int.reduceEq, Int.reduceAdd, Int.reduceSub, Int.reduceMul, Int.reduceNeg, Int.reduceToNat, Nat.reduceEqDiff, reduceIte, if_neg, if_pos, gI_ne, gIv 98, gIv 134, e134, gIv 135, e135]
        exact ih2
  have l0 := loop K 0 FU (by omega) (by rw [FU_d]; omega)
  have e0 : pd (awy d K t u) = pd (∃ k : Nat, 0 ≤ k ∧ k < K ∧ d 135 k = 3 ∧ d 136 k = t ∧ d 137 k ≤ u ∧ u ≤ d 138 k) := by
    unfold awy
    rw [Bool.eq_iff_iff, pd_iff, pd_iff]
    exact ⟨fun ⟨k, q⟩ => ⟨k, Nat.zero_le _, q⟩, fun ⟨k, _, q⟩ => ⟨k, q⟩⟩
  rw [fX13_isAway_d, e0]
  simp only [fX13_isAway_0]
  exact l0
def awQ (d : Nat → Nat → Int) (K t : Nat) (u z : Int) : Prop := (z = -1 ∧ ¬ awy d K t u) ∨ (∃ k : Nat, k < K ∧ z = d 138 k ∧ d 135 k = 3 ∧ d 136 k = t ∧ d 137 k ≤ u ∧ u ≤ d 138 k ∧ d 138 k ≤ 799)
theorem awayC {m0 w : qM} (hR : R0 m0) (hF : Fr evF m0 w) (K : Nat) (hK : (K : Int) ≤ vI m0 98 52) (t : Nat) (ht : t < 10) (u : Int) (hu : 0 ≤ u ∧ u ≤ 799) : ∃ z, fX9_awayUpTo (Zi t) (Zi u) (Zi K) w = some (Zi z, w) ∧ awQ (vI m0) K t u z := by
  obtain ⟨e1, e2, e3, e4, e5, e6⟩ := hR.2.2.2.1
  have st : ∀ c k, c ≤ 79 → vI w c k = vI m0 c k := fun c k hc => hF.v c k (by unfold evF; omega)
  have w5 : vI w 74 5 = vI m0 98 52 := by rw [st 74 5 (by omega), e1]
  have loop : ∀ (r i g : Nat), i + r = K → r < g → (∀ k, k < i → ¬ (vI m0 135 k = 3 ∧ vI m0 136 k = t ∧ vI m0 137 k ≤ u ∧ u ≤ vI m0 138 k)) → ∃ z, fX9_awayUpTo_2 fX9_awayUpTo_39 g (Zi t) (Zi u) (Zi K) (Zi i) w = some (Zi z, w) ∧ awQ (vI m0) K t u z := by
    intro r
    induction r with
    | zero =>
      intro i g hi hg hn
      obtain ⟨g, rfl⟩ : ∃ g', g = g' + 1 := ⟨g - 1, by omega⟩
      refine ⟨-1, ?_, Or.inl ⟨rfl, fun ⟨k, q1, q2⟩ => hn k (by omega) q2⟩⟩
      simp (disch := omega) only [fX9_awayUpTo_2, fX9_awayUpTo_39, qbI_s, qbL_s, qbV_s, qbR_s, qbR_n, qbN_s, qbN_n, qbIX_s, qbIX_n, qbVX_s, qbVX_n, cond_true, cond_false, cond_dec, jadd, jsub, jmul, jneg, li_0, li_1, li_2, li_3, li_4, li_5, li_6, li_7, li_8, li_9, li_10, li_14, li_15, li_16, li_19, li_20, li_24, li_30, li_31, li_32, li_39, li_40, li_48, li_57, li_59, li_60, li_63, li_65, li_80, li_81, li_90, li_97, li_99, li_100, li_122, li_126, li_127, li_150, li_160, li_200, li_225, li_255, li_400, li_799, li_800, li_999, li_2400, li_3239, li_3240, li_1048575, li_1431655765, li_858993459, li_252645135, eqb_j, ltb_j, leb_j, inb_j, ix_j, ix_n, nz_b, nz_0, nz_1, eqb_b, bnot, vI_ne, vI_eq, gIL, gLI, gIR, gRI, gLR, gRL, Int.reduceLT, Int.reduceLE, Int.reduceEq, Int.reduceAdd, Int.reduceSub, Int.reduceMul, Int.reduceNeg, Int.reduceToNat, Nat.reduceEqDiff, reduceIte, if_neg, if_pos, gI_ne, show (-1 : Int32) = Zi (-1) from rfl]
    | succ r ih =>
      intro i g hi hg hn
      obtain ⟨g, rfl⟩ : ∃ g', g = g' + 1 := ⟨g - 1, by omega⟩
      have c := e4 i (by omega)
      have w75 : vI w 75 i = vI m0 135 i := by rw [st 75 i (by omega), c.1]
      have w77 : vI w 77 i = vI m0 136 i := by rw [st 77 i (by omega), c.2.2.1]
      have w78 : vI w 78 i = vI m0 137 i := by rw [st 78 i (by omega), c.2.2.2.1]
      have w79 : vI w 79 i = vI m0 138 i := by rw [st 79 i (by omega), c.2.2.2.2]
      have hTi := (e5 i (by omega)).2.2
      have go : ¬ (vI m0 135 i = 3 ∧ vI m0 136 i = t ∧ vI m0 137 i ≤ u ∧ u ≤ vI m0 138 i) → ∃ z, fX9_awayUpTo_2 fX9_awayUpTo_39 g (Zi t) (Zi u) (Zi K) (Zi ((i + 1 : Nat) : Int)) w = some (Zi z, w) ∧ awQ (vI m0) K t u z := fun hn2 => ih (i + 1) g (by omega) (by omega) (fun k hk => by
        by_cases e : k = i
        · rw [e]; exact hn2
        · exact hn k (by omega))
      by_cases g1 : vI m0 135 i = 3
      · have hq : (0 ≤ vI m0 136 i ∧ vI m0 136 i ≤ 9) ∧ 0 ≤ vI m0 137 i ∧ vI m0 137 i ≤ vI m0 138 i ∧ vI m0 138 i ≤ 799 := by omega
        by_cases g2 : vI m0 136 i = t
        · by_cases g3 : vI m0 137 i ≤ u ∧ u ≤ vI m0 138 i
          · refine ⟨vI m0 138 i, ?_, Or.inr ⟨i, by omega, rfl, g1, g2, g3.1, g3.2, hq.2.2.2⟩⟩
            simp (disch := omega) only [fX9_awayUpTo_2, qbI_s, qbL_s, qbV_s, qbR_s, qbR_n, qbN_s, qbN_n, qbIX_s, qbIX_n, qbVX_s, qbVX_n, cond_true, cond_false, cond_dec, jadd, jsub, jmul, jneg, li_0, li_1, li_2, li_3, li_4, li_5, li_6, li_7, li_8, li_9, li_10, li_14, li_15, li_16, li_19, li_20, li_24, li_30, li_31, li_32, li_39, li_40, li_48, li_57, li_59, li_60, li_63, li_65, li_80, li_81, li_90, li_97, li_99, li_100, li_122, li_126, li_127, li_150, li_160, li_200, li_225, li_255, li_400, li_799, li_800, li_999, li_2400, li_3239, li_3240, li_1048575, li_1431655765, li_858993459, li_252645135, eqb_j, ltb_j, leb_j, inb_j, ix_j, ix_n, nz_b, nz_0, nz_1, eqb_b, bnot, vI_ne, vI_eq, gIL, gLI, gIR, gRI, gLR, gRL, Int.reduceLT, Int.reduceLE, Int.reduceEq, Int.reduceAdd, Int.reduceSub, Int.reduceMul, Int.reduceNeg, Int.reduceToNat, Nat.reduceEqDiff, reduceIte, if_neg, if_pos, gI_ne, gIv 74, w5, gIv 75, w75, g1, gIv 77, w77, g2, gIv 78, w78, gIv 79, w79, within_s, bI_dec]
          · obtain ⟨z, r1, r2⟩ := go fun z => g3 z.2.2
            refine ⟨z, ?_, r2⟩
            simp (disch := omega) only [fX9_awayUpTo_2, fX9_awayUpTo_37, qbI_s, qbL_s, qbV_s, qbR_s, qbR_n, qbN_s, qbN_n, qbIX_s, qbIX_n, qbVX_s, qbVX_n, cond_true, cond_false, cond_dec, jadd, jsub, jmul, jneg, li_0, li_1, li_2, li_3, li_4, li_5, li_6, li_7, li_8, li_9, li_10, li_14, li_15, li_16, li_19, li_20, li_24, li_30, li_31, li_32, li_39, li_40, li_48, li_57, li_59, li_60, li_63, li_65, li_80, li_81, li_90, li_97, li_99, li_100, li_122, li_126, li_127, li_150, li_160, li_200, li_225, li_255, li_400, li_799, li_800, li_999, li_2400, li_3239, li_3240, li_1048575, li_1431655765, li_858993459, li_252645135, eqb_j, ltb_j, leb_j, inb_j, ix_j, ix_n, nz_b, nz_0, nz_1, eqb_b, bnot, vI_ne, vI_eq, gIL, gLI, gIR, gRI, gLR, gRL, Int.reduceLT, Int.reduceLE, Int.reduceEq, Int.reduceAdd, Int.reduceSub, Int.reduceMul, Int.reduceNeg, Int.reduceToNat, Nat.reduceEqDiff, reduceIte, if_neg, if_pos, gI_ne, gIv 74, w5, gIv 75, w75, g1, gIv 77, w77, g2, gIv 78, w78, gIv 79, w79, within_s, bI_dec]
            exact r1
        · obtain ⟨z, r1, r2⟩ := go fun z => g2 z.2.1
          refine ⟨z, ?_, r2⟩
          simp (disch := omega) only [fX9_awayUpTo_2, fX9_awayUpTo_37, qbI_s, qbL_s, qbV_s, qbR_s, qbR_n, qbN_s, qbN_n, qbIX_s, qbIX_n, qbVX_s, qbVX_n, cond_true, cond_false, cond_dec, jadd, jsub, jmul, jneg, li_0, li_1, li_2, li_3, li_4, li_5, li_6, li_7, li_8, li_9, li_10, li_14, li_15, li_16, li_19, li_20, li_24, li_30, li_31, li_32, li_39, li_40, li_48, li_57, li_59, li_60, li_63, li_65, li_80, li_81, li_90, li_97, li_99, li_100, li_122, li_126, li_127, li_150, li_160, li_200, li_225, li_255, li_400, li_799, li_800, li_999, li_2400, li_3239, li_3240, li_1048575, li_1431655765, li_858993459, li_252645135, eqb_j, ltb_j, leb_j, inb_j, ix_j, ix_n, nz_b, nz_0, nz_1, eqb_b, bnot, vI_ne, vI_eq, gIL, gLI, gIR, gRI, gLR, gRL, Int.reduceLT, Int.reduceLE, Int.reduceEq, Int.reduceAdd, Int.reduceSub, Int.reduceMul, Int.reduceNeg, Int.reduceToNat, Nat.reduceEqDiff, reduceIte, if_neg, if_pos, gI_ne, gIv 74, w5, gIv 75, w75, g1, gIv 77, w77]
          exact r1
      · obtain ⟨z, r1, r2⟩ := go fun z => g1 z.1
        refine ⟨z, ?_, r2⟩
        simp (disch := omega) only [fX9_awayUpTo_2, fX9_awayUpTo_37, qbI_s, qbL_s, qbV_s, qbR_s, qbR_n, qbN_s, qbN_n, qbIX_s, qbIX_n, qbVX_s, qbVX_n, cond_true, cond_false, cond_dec, jadd, jsub, jmul, jneg, li_0, li_1, li_2, li_3, li_4, li_5, li_6, li_7, li_8, li_9, li_10, li_14, li_15, li_16, li_19, li_20, li_24, li_30, li_31, li_32, li_39, li_40, li_48, li_57, li_59, li_60, li_63, li_65, li_80, li_81, li_90, li_97, li_99, li_100, li_122, li_126, li_127, li_150, li_160, li_200, li_225, li_255, li_400, li_799, li_800, li_999, li_2400, li_3239, li_3240, li_1048575, li_1431655765, li_858993459, li_252645135, eqb_j, ltb_j, leb_j, inb_j, ix_j, ix_n, nz_b, nz_0, nz_1, eqb_b, bnot, vI_ne, vI_eq, gIL, gLI, gIR, gRI, gLR, gRL, Int.reduceLT, Int.reduceLE, Int.reduceEq, Int.reduceAdd, Int.reduceSub, Int.reduceMul, Int.reduceNeg, Int.reduceToNat, Nat.reduceEqDiff, reduceIte, if_neg, if_pos, gI_ne, gIv 74, w5, gIv 75, w75]
        exact r1
  obtain ⟨z, r1, r2⟩ := loop K 0 FU (by omega) (by rw [FU_d]; omega) (fun k hk => by omega)
  refine ⟨z, ?_, r2⟩
  rw [fX9_awayUpTo_d]
  exact r1
/-- a minute in which a teacher does nothing -/
def idl (d s : Nat → Nat → Int) (K t : Nat) (u : Nat) : Prop := (u : Int) < s 143 t ∨ (u : Int) < s 144 t ∨ awy d K t u ∨ ∀ a, opn d s a → d 124 a = t → (u : Int) < d 99 0 * d 125 a
def OutC (m0 : qM) (s : Nat → Nat → Int) (K : Nat) (w : qM) (t u : Nat) (s' : Nat → Nat → Int) (w' : qM) : Prop := CS m0 s' K w' ∧ SI (vI m0) s' ∧ (∀ t', t' ≠ t → vI w' 86 t' = vI w 86 t' ∧ s' 143 t' = s 143 t' ∧ s' 144 t' = s 144 t' ∧ ∀ a, vI m0 124 a = t' → (opn (vI m0) s' a ↔ opn (vI m0) s a)) ∧ (0 ≤ vI w' 86 t ∧ vI w' 86 t ≤ 1000) ∧ s' 143 t ≤ vI w' 86 t ∧ s' 144 t ≤ vI w' 86 t ∧ ∀ u' : Nat, u + 1 ≤ u' → (u' : Int) < vI w' 86 t → idl (vI m0) s' K t u'
/-- a teacher who may look -/
def LkC (s : Nat → Nat → Int) (w : qM) (t u : Nat) : Prop := (0 ≤ vI w 86 t ∧ vI w 86 t ≤ u) ∧ s 143 t ≤ vI w 86 t ∧ s 144 t ≤ vI w 86 t
theorem OutC.none {m0 w w' : qM} {s : Nat → Nat → Int} {K t u : Nat} (hS : SI (vI m0) s) (h : CS m0 s K w') (hu : u < 800) (hl : LkC s w t u) (h86 : ∀ t', vI w' 86 t' = vI w 86 t') : OutC m0 s K w t u s w' := by
  obtain ⟨l1, l2, l3⟩ := hl
  refine ⟨h, hS, fun t' _ => ⟨h86 t', rfl, rfl, fun a _ => Iff.rfl⟩, by rw [h86]; omega, by rw [h86]; exact l2, by rw [h86]; exact l3, fun u' h1 h2 => ?_⟩
  rw [h86] at h2
  omega
/-- only the class's own note of when to look again -/
theorem OutC.note {m0 w : qM} {s : Nat → Nat → Int} {K t u : Nat} (ht : t < 10) (hS : SI (vI m0) s) (h : CS m0 s K w) (hu : u < 800) (hl : LkC s w t u) (z : Int) (hz : (u : Int) < z ∧ z ≤ 1000) (hi : ∀ u' : Nat, u + 1 ≤ u' → (u' : Int) < z → idl (vI m0) s K t u') : OutC m0 s K w t u s (sI w 86 t (Zi z)) := by
  obtain ⟨l1, l2, l3⟩ := hl
  have e : vI (sI w 86 t (Zi z)) 86 t = z := by rw [vI_eq (by omega), if_pos rfl]
  refine ⟨h.keep ((Fr.rf w).wI 86 t _ (Or.inr rfl)), hS, fun t' h' => ⟨by rw [vI_eq (by omega), if_neg h'], rfl, rfl, fun a _ => Iff.rfl⟩, by rw [e]; omega, by rw [e]; omega, by rw [e]; omega, fun u' h1 h2 => ?_⟩
  rw [e] at h2
  exact hi u' h1 h2
theorem OutC.miss {m0 w : qM} (hR : R0 m0) {s : Nat → Nat → Int} {K t u : Nat} (hS : SI (vI m0) s) (h : CS m0 s K w) (hu : u < 800) (hl : LkC s w t u) (a : Nat) (ha : opn (vI m0) s a) (hat : vI m0 124 a = t) : wp (fX1_drop (Zi a) w) (fun _ w' => OutC m0 s K w t u (upE s 149 a 1) w') := by
  obtain ⟨x, w', e, hC, h86⟩ := dropC hR h a ha
  obtain ⟨l1, l2, l3⟩ := hl
  refine ⟨x, w', e, hC, hS.ms a ha, fun t' h' => ⟨h86 t', upE_c _ _ (by omega), upE_c _ _ (by omega), fun o ho => (opn_ms a).2 o (fun e => h' (by rw [e, hat] at ho; omega))⟩, by rw [h86]; omega, by rw [h86, upE_c _ _ (by omega)]; exact l2, by rw [h86, upE_c _ _ (by omega)]; exact l3, fun u' h1 h2 => ?_⟩
  rw [h86] at h2
  omega
theorem OutC.start {m0 w : qM} (hR : R0 m0) {s : Nat → Nat → Int} {K t u : Nat} (hK : K ≤ 80) (ht : t < 10) (hS : SI (vI m0) s) (h : CS m0 s K w) (hu : u < 800) (hl : LkC s w t u) (a : Nat) (ha : opn (vI m0) s a) (hat : vI m0 124 a = t) (n : Int) (hn : 0 ≤ n ∧ n ≤ 90) : wp (fX1_meet (Zi a) (Zi u) (Zi n) w) (fun _ w' => OutC m0 s K w t u (stE (vI m0) s a u n) w') := by
  have hD := DOk.of (CS.all hR h.1)
  obtain ⟨x, w', e, hC, h86⟩ := meetC hR hK hS h a ha u n (by omega) hn
  obtain ⟨l1, l2, l3⟩ := hl
  have e86 : vI w' 86 t = u + n := by rw [h86, hat, Int.toNat_natCast, if_pos rfl]
  have o86 : ∀ t', t' ≠ t → vI w' 86 t' = vI w 86 t' := fun t' h' => by rw [h86, hat, Int.toNat_natCast, if_neg h']
  have e143 : ∀ t', stE (vI m0) s a u n 143 t' = if t' = t then u + n else s 143 t' := fun t' => by rw [stE_143, hat, Int.toNat_natCast]
  have e144 : ∀ t', stE (vI m0) s a u n 144 t' = s 144 t' := fun t' => stE_o _ _ _ _ _ (by omega)
  refine ⟨x, w', e, hC, hS.st hD a ha u n (by omega) hn, fun t' h' => ⟨o86 t' h', by rw [e143, if_neg h'], e144 t', fun o ho => (opn_st a u n (by omega)).2 o (fun e => h' (by rw [e, hat] at ho; omega))⟩, by rw [e86]; omega, by rw [e86, e143, if_pos rfl]; omega, by rw [e86, e144]; omega, fun u' h1 h2 => ?_⟩
  rw [e86] at h2
  exact Or.inl (by rw [e143, if_pos rfl]; exact h2)
theorem OutC.pause {m0 w : qM} {s : Nat → Nat → Int} {K t u : Nat} (ht : t < 10) (hS : SI (vI m0) s) (h : CS m0 s K w) (hu : u < 800) (hl : LkC s w t u) (n : Int) (hn : 0 ≤ n ∧ n ≤ 30) : OutC m0 s K w t u (upE s 144 t (u + n)) (sI w 86 t (Zi (u + n))) := by
  obtain ⟨l1, l2, l3⟩ := hl
  have e : vI (sI w 86 t (Zi (u + n))) 86 t = u + n := by rw [vI_eq (by omega), if_pos rfl]
  have hC : CS m0 (upE s 144 t (u + n)) K w := by
    obtain ⟨h1, h2, h3, h4, h5, h6, h7, h8⟩ := h
    refine ⟨h1, h2, fun t' b ht' hb => ?_, fun f hf => ?_, fun k hk => ?_, fun o ho => ?_, h7, h8⟩
    · rw [h3 t' b ht' hb]
      have : ∀ o, opn (vI m0) (upE s 144 t (u + n)) o ↔ opn (vI m0) s o := fun o => by
        unfold opn
        rw [upE_c _ _ (by omega), upE_c _ _ (by omega)]
      rw [Bool.eq_iff_iff, pd_iff, pd_iff]
      exact ⟨fun ⟨o, q1, q2⟩ => ⟨o, (this o).mpr q1, q2⟩, fun ⟨o, q1, q2⟩ => ⟨o, (this o).mp q1, q2⟩⟩
    · rw [upE_c _ _ (by omega), upE_c _ _ (by omega), upE_c _ _ (by omega)]; exact h4 f hf
    · rw [upE_c _ _ (by omega)]; exact h5 k hk
    · rw [upE_c _ _ (by omega), upE_c _ _ (by omega), upE_c _ _ (by omega), upE_c _ _ (by omega)]; exact h6 o ho
  have hS' : SI (vI m0) (upE s 144 t (u + n)) := by
    obtain ⟨s1, s2, s3, s4, s5⟩ := hS
    refine ⟨fun f hf => ?_, fun k hk => ?_, ?_, fun t' ht' => ?_, fun b hb => ?_⟩
    · rw [upE_c _ _ (by omega), upE_c _ _ (by omega), upE_c _ _ (by omega)]; exact s1 f hf
    · rw [upE_c _ _ (by omega)]; exact s2 k hk
    · rw [upE_c _ _ (by omega)]; exact s3
    · rw [upE_c _ _ (by omega), upE_eq]
      have := s4 t' ht'
      refine ⟨this.1, ?_⟩
      split <;> omega
    · rw [upE_c _ _ (by omega), upE_c _ _ (by omega), upE_c _ _ (by omega), upE_c _ _ (by omega), upE_c _ _ (by omega)]; exact s5 b hb
  refine ⟨hC.keep ((Fr.rf w).wI 86 t _ (Or.inr rfl)), hS', fun t' h' => ⟨by rw [vI_eq (by omega), if_neg h'], upE_c _ _ (by omega), by rw [upE_eq, if_neg h'], fun a _ => ?_⟩, by rw [e]; omega, by rw [e, upE_c _ _ (by omega)]; omega, by rw [e, upE_eq, if_pos rfl]; omega, fun u' h1 h2 => ?_⟩
  · unfold opn
    rw [upE_c _ _ (by omega), upE_c _ _ (by omega)]
  · rw [e] at h2
    exact Or.inr (Or.inl (by rw [upE_eq, if_pos rfl]; exact h2))
theorem fullC {m0 w : qM} (hR : R0 m0) {s : Nat → Nat → Int} {K : Nat} (hS : SI (vI m0) s) (h : CS m0 s K w) (a : Nat) (ha : (a : Int) < vI m0 98 32) : fX1_fullMinutes (Zi a) w = some (Zi (vI m0 99 0 + s 139 a), w) ∧ (1 ≤ vI m0 99 0 + s 139 a ∧ vI m0 99 0 + s 139 a ≤ 90) := by
  have hA := CS.all hR h.1
  have hD := DOk.of hA
  have n2 := hD.2.2.2.2.2.1
  have r0 := hD.1.1
  have q := (hS.2.2.2.2 a ha).1
  refine ⟨?_, by omega⟩
  obtain ⟨k1, k2, -⟩ := hD.2.2.2.2.2.2 a ha
  obtain ⟨t, ht⟩ : ∃ t : Nat, vI m0 124 a = t := ⟨(vI m0 124 a).toNat, by omega⟩
  have tA := evTea hA a ha
  rw [ht] at tA
  have mA := evMin hA
  have hHa : RHab w := hR.1.2.2.2.2.mono fun c k hc => h.1.1 c k (by unfold evF; omega)
  have fA := ftC w hHa t (by omega)
  have fe : ftV (vI w) t = ftV (vI m0) t := by
    unfold ftV
    rw [h.1.v 132 t (by unfold evF; omega), h.1.v 133 _ (by unfold evF; omega)]
  rw [fe] at fA
  have c90 := (h.2.2.2.2.2.1 a ha).1
  rw [ht, Int.toNat_natCast] at c90
  rw [fX1_fullMinutes_d]
  rcases c90 with ⟨c1, c2⟩ | c1
  · rw [← c2] at fA
    simp (disch := omega) only [fX1_fullMinutes_0, fX1_fullMinutes_18, qbI_s, qbL_s, qbV_s, qbR_s, qbR_n, qbN_s, qbN_n, qbIX_s, qbIX_n, qbVX_s, qbVX_n, cond_true, cond_false, cond_dec, jadd, jsub, jmul, jneg, li_0, li_1, li_2, li_3, li_4, li_5, li_6, li_7, li_8, li_9, li_10, li_14, li_15, li_16, li_19, li_20, li_24, li_30, li_31, li_32, li_39, li_40, li_48, li_57, li_59, li_60, li_63, li_65, li_80, li_81, li_90, li_97, li_99, li_100, li_122, li_126, li_127, li_150, li_160, li_200, li_225, li_255, li_400, li_799, li_800, li_999, li_2400, li_3239, li_3240, li_1048575, li_1431655765, li_858993459, li_252645135, eqb_j, ltb_j, leb_j, inb_j, ix_j, ix_n, nz_b, nz_0, nz_1, eqb_b, bnot, vI_ne, vI_eq, gIL, gLI, gIR, gRI, gLR, gRL, Int.reduceLT, Int.reduceLE, Int.reduceEq, Int.reduceAdd, Int.reduceSub, Int.reduceMul, Int.reduceNeg, Int.reduceToNat, Nat.reduceEqDiff, reduceIte, if_neg, if_pos, gI_ne, gIv 90, c1, tA, fA, mA, show (-1 : Int32) = Zi (-1) from rfl]
  · simp (disch := omega) only [fX1_fullMinutes_0, fX1_fullMinutes_18, qbI_s, qbL_s, qbV_s, qbR_s, qbR_n, qbN_s, qbN_n, qbIX_s, qbIX_n, qbVX_s, qbVX_n, cond_true, cond_false, cond_dec, jadd, jsub, jmul, jneg, li_0, li_1, li_2, li_3, li_4, li_5, li_6, li_7, li_8, li_9, li_10, li_14, li_15, li_16, li_19, li_20, li_24, li_30, li_31, li_32, li_39, li_40, li_48, li_57, li_59, li_60, li_63, li_65, li_80, li_81, li_90, li_97, li_99, li_100, li_122, li_126, li_127, li_150, li_160, li_200, li_225, li_255, li_400, li_799, li_800, li_999, li_2400, li_3239, li_3240, li_1048575, li_1431655765, li_858993459, li_252645135, eqb_j, ltb_j, leb_j, inb_j, ix_j, ix_n, nz_b, nz_0, nz_1, eqb_b, bnot, vI_ne, vI_eq, gIL, gLI, gIR, gRI, gLR, gRL, Int.reduceLT, Int.reduceLE, Int.reduceEq, Int.reduceAdd, Int.reduceSub, Int.reduceMul, Int.reduceNeg, Int.reduceToNat, Nat.reduceEqDiff, reduceIte, if_neg, if_pos, gI_ne, gIv 90, c1, mA, show (-1 : Int32) = Zi (-1) from rfl]
