/-! best: the operation -/
theorem op_best (m : qM) (hR : R0 m) (a : Int) (ha0 : -2147483648 ≤ a ∧ a < 2147483648) : QOp m (fX11_best (Zi a)) (fX13_best (Zi a)) := by
  have hR' := hR
  obtain ⟨⟨hT, hRd, hRu, hFo, hHa⟩, ⟨hPt, hPf, hAp, hWk⟩, ⟨hAs, hPa, hCl, hDi, hBi, hCn⟩, ⟨hTe, hBe, hNo, hPo⟩⟩ := hR'
  have hC := CAll.of hR
  have hD := DOk.of hC
  have b1 := hBe.1
  have b2 := hBe.2.1
  have hasks := hAs.1
  obtain ⟨n, hn⟩ : ∃ n : Nat, vI m 98 32 = n := ⟨(vI m 98 32).toNat, by have := hAs.2.1; omega⟩
  have hn40 : n ≤ 40 := by have := hAs.2.2.1; omega
  obtain ⟨n', hn', hn'' ⟩ : ∃ n' : Nat, n' = min n 30 ∧ n' ≤ 30 := ⟨min n 30, rfl, by omega⟩
  have mnC : fJ9_min_7cf53 (Zi n) (Zi 30) m = some (Zi n', m) := by
    rw [show (n' : Int) = min (n : Int) 30 by omega]
    exact min_s _ _ (by omega) m
  have mnM : ∀ w, fJ9_min_7cf53 (Zi 30) (Zi n) w = some (Zi n', w) := fun w => by
    rw [show (n' : Int) = min 30 (n : Int) by omega]
    exact min_s _ _ (by omega) w
  obtain ⟨P, hPd⟩ : ∃ P : Nat, P = 2 ^ n' := ⟨_, rfl⟩
  have hP1 : 1 ≤ P := by rw [hPd]; exact Nat.one_le_two_pow
  have hP30 : P ≤ 1073741824 := by
    rw [hPd, show 1073741824 = 2 ^ 30 from rfl]
    exact Nat.pow_le_pow_right (by decide) hn''
  have sh := shlL n' (by omega)
  rw [← hPd] at sh
  have inM := fun w => in_s a 1 ((P : Int) - 1) (by omega) w
  by_cases g0 : a < 1
  · refine QOp.same (x := Zi (-2)) hR ?_ ?_
    · rw [fX11_best_d]
      simp (disch := omega) only [fX11_best_0, fX11_best_11, qbI_s, qbL_s, qbV_s, qbR_s, qbR_n, qbN_s, qbN_n, qbIX_s, qbIX_n, qbVX_s, qbVX_n, cond_true, cond_false, cond_dec, jadd, jsub, jmul, jneg, li_0, li_1, li_2, li_3, li_4, li_5, li_6, li_7, li_8, li_9, li_10, li_14, li_15, li_16, li_19, li_20, li_24, li_30, li_31, li_32, li_39, li_40, li_48, li_57, li_59, li_60, li_63, li_65, li_80, li_81, li_90, li_97, li_99, li_100, li_122, li_126, li_127, li_150, li_160, li_200, li_225, li_255, li_400, li_799, li_800, li_999, li_2400, li_3239, li_3240, li_1048575, li_1431655765, li_858993459, li_252645135, eqb_j, ltb_j, leb_j, inb_j, ix_j, ix_n, nz_b, nz_0, nz_1, eqb_b, bnot, vI_ne, vI_eq, gIL, gLI, gIR, gRI, gLR, gRL, Int.reduceLT, Int.reduceLE, Int.reduceEq, Int.reduceAdd, Int.reduceSub, Int.reduceMul, Int.reduceNeg, Int.reduceToNat, Nat.reduceEqDiff, reduceIte, if_neg, if_pos, gI_ne]
      all_goals rfl
    · have i := inM m
      rw [decide_eq_false (by omega)] at i
      rw [fX13_best_d]
      simp (disch := omega) only [fX13_best_0, qbI_s, qbL_s, qbV_s, qbR_s, qbR_n, qbN_s, qbN_n, qbIX_s, qbIX_n, qbVX_s, qbVX_n, cond_true, cond_false, cond_dec, jadd, jsub, jmul, jneg, li_0, li_1, li_2, li_3, li_4, li_5, li_6, li_7, li_8, li_9, li_10, li_14, li_15, li_16, li_19, li_20, li_24, li_30, li_31, li_32, li_39, li_40, li_48, li_57, li_59, li_60, li_63, li_65, li_80, li_81, li_90, li_97, li_99, li_100, li_122, li_126, li_127, li_150, li_160, li_200, li_225, li_255, li_400, li_799, li_800, li_999, li_2400, li_3239, li_3240, li_1048575, li_1431655765, li_858993459, li_252645135, eqb_j, ltb_j, leb_j, inb_j, ix_j, ix_n, nz_b, nz_0, nz_1, eqb_b, bnot, vI_ne, vI_eq, gIL, gLI, gIR, gRI, gLR, gRL, Int.reduceLT, Int.reduceLE, Int.reduceEq, Int.reduceAdd, Int.reduceSub, Int.reduceMul, Int.reduceNeg, Int.reduceToNat, Nat.reduceEqDiff, reduceIte, if_neg, if_pos, gI_ne, ll_0, ll_1, ll_3, ll_5, ll_9, ll_10, ll_13, ll_14, ll_19, ll_20, ll_32, ll_60, ll_126, ll_799, ll_1024, ll_1048576, ll_67108864, Zladd, Zlsub, Zlmul, Zlneg, toL, lg_lt, lg_gt, lg_le, gIv 98, hn, mnM, sh, i, show bI false = 0 from rfl]
      all_goals rfl
  · obtain ⟨z, hz⟩ : ∃ z : Nat, a = z := ⟨a.toNat, by omega⟩
    subst hz
    have sz := shr_z z n' (by omega) hn''
    rw [← hPd] at sz
    by_cases g1 : z < P
    · have i1 : ∀ w, fX13_in (Zl (z : Int)) (Zl 1) (Zl ((P : Int) - 1)) w = some (Zi 1, w) := fun w => by
        rw [inM w, decide_eq_true (by omega)]
        rfl
      rw [decide_eq_true g1] at sz
      obtain ⟨ms, hms⟩ : ∃ ms : Nat → Bool, ms = bt (Zi (z : Int)) := ⟨_, rfl⟩
      have hbig : ∀ i, n' ≤ i → ms i = false := fun i hi => by
        rw [hms, Zn, bt_n, Nat.testBit_lt_two_pow (Nat.lt_of_lt_of_le g1 (by rw [hPd]; exact Nat.pow_le_pow_right (by decide) hi)), Bool.and_false]
      have tot : ∀ k, fb_ct ms (n' + k) = fb_ct ms n' := fun k => by
        rw [fb_ct_split, show fb_ct (fun k => ms (n' + k)) k = 0 from fb_ct_zero.mpr (fun i _ => hbig _ (by omega)), Nat.add_zero]
      have pc : ∀ w, fJ6_bitCount_0f7a4 (Zi z) w = some (Zi (fb_ct ms n' : Nat), w) := fun w => by
        rw [popc_s]
        have : popc (Zi z) = fb_ct ms n' := by
          rw [← tot (32 - n'), show n' + (32 - n') = 32 by omega, hms]
          rfl
        rw [this]
      have ctle := fb_ct_le ms n'
      have bit : ∀ i : Nat, i < 32 → eqb ((Zi z >>> (Zi i &&& Zi 31)) &&& Zi 1) (Zi 0) = !ms i := fun i hi => by rw [hms]; exact bit_s _ i hi
      have has : ∀ (i : Nat) (w : qM), i < 32 → fX11_has (Zi z) (Zi i) w = some (Zi (bI (ms i)), w) := fun i w hi => by rw [hms]; exact has_s _ i hi w
      -- the reference counts
      have key21 : ∀ (w : qM), (∀ c k, dP c k → vI w c k = vI m c k) → ∀ (k50 : Int32 → Int32 → Int32 → qM → Option (Int32 × qM)) (r i g : Nat), i + r = n' → r < g → fX13_best_21 k50 g (Zi z) (Zi (fb_ct ms i : Nat)) (Zi (bI (pd (∃ k, k < i ∧ ms k = true ∧ vI m 125 k ≠ -1)))) (Zi i) w = k50 (Zi z) (Zi (fb_ct ms n' : Nat)) (Zi (bI (pd (∃ k, k < n' ∧ ms k = true ∧ vI m 125 k ≠ -1)))) w := by
        intro w hw k50 r
        have w32 : vI w 98 32 = n := (hw 98 32 (by unfold dP; omega)).trans hn
        induction r with
        | zero =>
          intro i g hi hg
          obtain ⟨g, rfl⟩ : ∃ g', g = g' + 1 := ⟨g - 1, by omega⟩
          have hi' : i = n' := by omega
          subst hi'
          by_cases h30 : i = 30
          · simp (disch := omega) only [fX13_best_21, qbI_s, qbL_s, qbV_s, qbR_s, qbR_n, qbN_s, qbN_n, qbIX_s, qbIX_n, qbVX_s, qbVX_n, cond_true, cond_false, cond_dec, jadd, jsub, jmul, jneg, li_0, li_1, li_2, li_3, li_4, li_5, li_6, li_7, li_8, li_9, li_10, li_14, li_15, li_16, li_19, li_20, li_24, li_30, li_31, li_32, li_39, li_40, li_48, li_57, li_59, li_60, li_63, li_65, li_80, li_81, li_90, li_97, li_99, li_100, li_122, li_126, li_127, li_150, li_160, li_200, li_225, li_255, li_400, li_799, li_800, li_999, li_2400, li_3239, li_3240, li_1048575, li_1431655765, li_858993459, li_252645135, eqb_j, ltb_j, leb_j, inb_j, ix_j, ix_n, nz_b, nz_0, nz_1, eqb_b, bnot, vI_ne, vI_eq, gIL, gLI, gIR, gRI, gLR, gRL, Int.reduceLT, Int.reduceLE, Int.reduceEq, Int.reduceAdd, Int.reduceSub, Int.reduceMul, Int.reduceNeg, Int.reduceToNat, Nat.reduceEqDiff, reduceIte, if_neg, if_pos, gI_ne]
          · simp (disch := omega) only [fX13_best_21, qbI_s, qbL_s, qbV_s, qbR_s, qbR_n, qbN_s, qbN_n, qbIX_s, qbIX_n, qbVX_s, qbVX_n, cond_true, cond_false, cond_dec, jadd, jsub, jmul, jneg, li_0, li_1, li_2, li_3, li_4, li_5, li_6, li_7, li_8, li_9, li_10, li_14, li_15, li_16, li_19, li_20, li_24, li_30, li_31, li_32, li_39, li_40, li_48, li_57, li_59, li_60, li_63, li_65, li_80, li_81, li_90, li_97, li_99, li_100, li_122, li_126, li_127, li_150, li_160, li_200, li_225, li_255, li_400, li_799, li_800, li_999, li_2400, li_3239, li_3240, li_1048575, li_1431655765, li_858993459, li_252645135, eqb_j, ltb_j, leb_j, inb_j, ix_j, ix_n, nz_b, nz_0, nz_1, eqb_b, bnot, vI_ne, vI_eq, gIL, gLI, gIR, gRI, gLR, gRL, Int.reduceLT, Int.reduceLE, Int.reduceEq, Int.reduceAdd, Int.reduceSub, Int.reduceMul, Int.reduceNeg, Int.reduceToNat, Nat.reduceEqDiff, reduceIte, if_neg, if_pos, gI_ne, gIv 98, w32]
        | succ r ih =>
          intro i g hi hg
          obtain ⟨g, rfl⟩ : ∃ g', g = g' + 1 := ⟨g - 1, by omega⟩
          have nx := ih (i + 1) g (by omega) (by omega)
          rw [fb_ct_succ] at nx
          have cli := fb_ct_le ms i
          have bi := bit i (by omega)
          have w125 : vI w 125 i = vI m 125 i := hw 125 i (by unfold dP; omega)
          have sr := (hD.2.2.2.2.2.2 i (by omega)).2.2.2
          cases hb : ms i
          · rw [hb] at nx bi
            have e : pd (∃ k, k < i + 1 ∧ ms k = true ∧ vI m 125 k ≠ -1) = pd (∃ k, k < i ∧ ms k = true ∧ vI m 125 k ≠ -1) := by
              rw [Bool.eq_iff_iff, pd_iff, pd_iff]
              constructor
              · rintro ⟨k, k1, k2, k3⟩
                exact ⟨k, by have : k ≠ i := fun y => (by rw [y, hb] at k2; cases k2)
                             omega, k2, k3⟩
              · rintro ⟨k, k1, k2, k3⟩
                exact ⟨k, by omega, k2, k3⟩
            rw [e] at nx
            simp (disch := omega) only [fX13_best_21, fX13_best_48, qbI_s, qbL_s, qbV_s, qbR_s, qbR_n, qbN_s, qbN_n, qbIX_s, qbIX_n, qbVX_s, qbVX_n, cond_true, cond_false, cond_dec, jadd, jsub, jmul, jneg, li_0, li_1, li_2, li_3, li_4, li_5, li_6, li_7, li_8, li_9, li_10, li_14, li_15, li_16, li_19, li_20, li_24, li_30, li_31, li_32, li_39, li_40, li_48, li_57, li_59, li_60, li_63, li_65, li_80, li_81, li_90, li_97, li_99, li_100, li_122, li_126, li_127, li_150, li_160, li_200, li_225, li_255, li_400, li_799, li_800, li_999, li_2400, li_3239, li_3240, li_1048575, li_1431655765, li_858993459, li_252645135, eqb_j, ltb_j, leb_j, inb_j, ix_j, ix_n, nz_b, nz_0, nz_1, eqb_b, bnot, vI_ne, vI_eq, gIL, gLI, gIR, gRI, gLR, gRL, Int.reduceLT, Int.reduceLE, Int.reduceEq, Int.reduceAdd, Int.reduceSub, Int.reduceMul, Int.reduceNeg, Int.reduceToNat, Nat.reduceEqDiff, reduceIte, if_neg, if_pos, gI_ne, gIv 98, w32, bi, Bool.not_false]
            exact nx
          · rw [hb, if_pos rfl] at nx
            rw [hb] at bi
            by_cases hl : vI m 125 i = -1
            · have e : pd (∃ k, k < i + 1 ∧ ms k = true ∧ vI m 125 k ≠ -1) = pd (∃ k, k < i ∧ ms k = true ∧ vI m 125 k ≠ -1) := by
                rw [Bool.eq_iff_iff, pd_iff, pd_iff]
                constructor
                · rintro ⟨k, k1, k2, k3⟩
                  exact ⟨k, by have : k ≠ i := fun y => k3 (by rw [y]; exact hl)
                               omega, k2, k3⟩
                · rintro ⟨k, k1, k2, k3⟩
                  exact ⟨k, by omega, k2, k3⟩
              rw [e] at nx
              generalize pd (∃ k, k < i ∧ ms k = true ∧ vI m 125 k ≠ -1) = B at *
              cases B
              · simp (disch := omega) only [fX13_best_21, fX13_best_47, fX13_best_44, fX13_best_48, qbI_s, qbL_s, qbV_s, qbR_s, qbR_n, qbN_s, qbN_n, qbIX_s, qbIX_n, qbVX_s, qbVX_n, cond_true, cond_false, cond_dec, jadd, jsub, jmul, jneg, li_0, li_1, li_2, li_3, li_4, li_5, li_6, li_7, li_8, li_9, li_10, li_14, li_15, li_16, li_19, li_20, li_24, li_30, li_31, li_32, li_39, li_40, li_48, li_57, li_59, li_60, li_63, li_65, li_80, li_81, li_90, li_97, li_99, li_100, li_122, li_126, li_127, li_150, li_160, li_200, li_225, li_255, li_400, li_799, li_800, li_999, li_2400, li_3239, li_3240, li_1048575, li_1431655765, li_858993459, li_252645135, eqb_j, ltb_j, leb_j, inb_j, ix_j, ix_n, nz_b, nz_0, nz_1, eqb_b, bnot, vI_ne, vI_eq, gIL, gLI, gIR, gRI, gLR, gRL, Int.reduceLT, Int.reduceLE, Int.reduceEq, Int.reduceAdd, Int.reduceSub, Int.reduceMul, Int.reduceNeg, Int.reduceToNat, Nat.reduceEqDiff, reduceIte, if_neg, if_pos, gI_ne, gIv 98, w32, gIv 125, w125, hl, bi, Bool.not_true, Bool.not_false, show bI false = 0 from rfl, show (-1 : Int32) = Zi (-1) from rfl]
                exact nx
              · simp (disch := omega) only [fX13_best_21, fX13_best_47, fX13_best_44, fX13_best_48, qbI_s, qbL_s, qbV_s, qbR_s, qbR_n, qbN_s, qbN_n, qbIX_s, qbIX_n, qbVX_s, qbVX_n, cond_true, cond_false, cond_dec, jadd, jsub, jmul, jneg, li_0, li_1, li_2, li_3, li_4, li_5, li_6, li_7, li_8, li_9, li_10, li_14, li_15, li_16, li_19, li_20, li_24, li_30, li_31, li_32, li_39, li_40, li_48, li_57, li_59, li_60, li_63, li_65, li_80, li_81, li_90, li_97, li_99, li_100, li_122, li_126, li_127, li_150, li_160, li_200, li_225, li_255, li_400, li_799, li_800, li_999, li_2400, li_3239, li_3240, li_1048575, li_1431655765, li_858993459, li_252645135, eqb_j, ltb_j, leb_j, inb_j, ix_j, ix_n, nz_b, nz_0, nz_1, eqb_b, bnot, vI_ne, vI_eq, gIL, gLI, gIR, gRI, gLR, gRL, Int.reduceLT, Int.reduceLE, Int.reduceEq, Int.reduceAdd, Int.reduceSub, Int.reduceMul, Int.reduceNeg, Int.reduceToNat, Nat.reduceEqDiff, reduceIte, if_neg, if_pos, gI_ne, gIv 98, w32, gIv 125, w125, hl, bi, Bool.not_true, Bool.not_false, show bI true = 1 from rfl, show (-1 : Int32) = Zi (-1) from rfl]
                exact nx
            · have e : pd (∃ k, k < i + 1 ∧ ms k = true ∧ vI m 125 k ≠ -1) = true := pd_t ⟨i, by omega, hb, hl⟩
              rw [e] at nx
              generalize pd (∃ k, k < i ∧ ms k = true ∧ vI m 125 k ≠ -1) = B at *
              cases B
              · simp (disch := omega) only [fX13_best_21, fX13_best_47, fX13_best_44, fX13_best_48, qbI_s, qbL_s, qbV_s, qbR_s, qbR_n, qbN_s, qbN_n, qbIX_s, qbIX_n, qbVX_s, qbVX_n, cond_true, cond_false, cond_dec, jadd, jsub, jmul, jneg, li_0, li_1, li_2, li_3, li_4, li_5, li_6, li_7, li_8, li_9, li_10, li_14, li_15, li_16, li_19, li_20, li_24, li_30, li_31, li_32, li_39, li_40, li_48, li_57, li_59, li_60, li_63, li_65, li_80, li_81, li_90, li_97, li_99, li_100, li_122, li_126, li_127, li_150, li_160, li_200, li_225, li_255, li_400, li_799, li_800, li_999, li_2400, li_3239, li_3240, li_1048575, li_1431655765, li_858993459, li_252645135, eqb_j, ltb_j, leb_j, inb_j, ix_j, ix_n, nz_b, nz_0, nz_1, eqb_b, bnot, vI_ne, vI_eq, gIL, gLI, gIR, gRI, gLR, gRL, Int.reduceLT, Int.reduceLE, Int.reduceEq, Int.reduceAdd, Int.reduceSub, Int.reduceMul, Int.reduceNeg, Int.reduceToNat, Nat.reduceEqDiff, reduceIte, if_neg, if_pos, gI_ne, gIv 98, w32, gIv 125, w125, bi, Bool.not_true, Bool.not_false, show bI false = 0 from rfl, show (-1 : Int32) = Zi (-1) from rfl]
                exact nx
              · simp (disch := omega) only [fX13_best_21, fX13_best_47, fX13_best_44, fX13_best_48, qbI_s, qbL_s, qbV_s, qbR_s, qbR_n, qbN_s, qbN_n, qbIX_s, qbIX_n, qbVX_s, qbVX_n, cond_true, cond_false, cond_dec, jadd, jsub, jmul, jneg, li_0, li_1, li_2, li_3, li_4, li_5, li_6, li_7, li_8, li_9, li_10, li_14, li_15, li_16, li_19, li_20, li_24, li_30, li_31, li_32, li_39, li_40, li_48, li_57, li_59, li_60, li_63, li_65, li_80, li_81, li_90, li_97, li_99, li_100, li_122, li_126, li_127, li_150, li_160, li_200, li_225, li_255, li_400, li_799, li_800, li_999, li_2400, li_3239, li_3240, li_1048575, li_1431655765, li_858993459, li_252645135, eqb_j, ltb_j, leb_j, inb_j, ix_j, ix_n, nz_b, nz_0, nz_1, eqb_b, bnot, vI_ne, vI_eq, gIL, gLI, gIR, gRI, gLR, gRL, Int.reduceLT, Int.reduceLE, Int.reduceEq, Int.reduceAdd, Int.reduceSub, Int.reduceMul, Int.reduceNeg, Int.reduceToNat, Nat.reduceEqDiff, reduceIte, if_neg, if_pos, gI_ne, gIv 98, w32, gIv 125, w125, bi, Bool.not_true, Bool.not_false, show bI true = 1 from rfl, show (-1 : Int32) = Zi (-1) from rfl]
                exact nx
      have z21 : ∀ (w : qM), (∀ c k, dP c k → vI w c k = vI m c k) → fX13_best_21 fX13_best_50 FU (Zi z) (Zi 0) (Zi 0) (Zi 0) w = fX13_best_50 (Zi z) (Zi (fb_ct ms n' : Nat)) (Zi (bI (pd (∃ k, k < n' ∧ ms k = true ∧ vI m 125 k ≠ -1)))) w := fun w hw => by
        have h := key21 w hw fX13_best_50 n' 0 FU (by omega) (by rw [FU_d]; omega)
        rw [pd_f (p := ∃ k, k < 0 ∧ ms k = true ∧ vI m 125 k ≠ -1) (fun ⟨k, k1, k2⟩ => by omega)] at h
        exact h
      have r0 : ∀ (w : qM), (∀ c k, dP c k → vI w c k = vI m c k) → fX13_best (Zi z) w = fX13_best_50 (Zi z) (Zi (fb_ct ms n' : Nat)) (Zi (bI (pd (∃ k, k < n' ∧ ms k = true ∧ vI m 125 k ≠ -1)))) w := fun w hw => by
        have w32 : vI w 98 32 = n := (hw 98 32 (by unfold dP; omega)).trans hn
        rw [← z21 w hw, fX13_best_d]
        simp (disch := omega) only [fX13_best_0, qbI_s, qbL_s, qbV_s, qbR_s, qbR_n, qbN_s, qbN_n, qbIX_s, qbIX_n, qbVX_s, qbVX_n, cond_true, cond_false, cond_dec, jadd, jsub, jmul, jneg, li_0, li_1, li_2, li_3, li_4, li_5, li_6, li_7, li_8, li_9, li_10, li_14, li_15, li_16, li_19, li_20, li_24, li_30, li_31, li_32, li_39, li_40, li_48, li_57, li_59, li_60, li_63, li_65, li_80, li_81, li_90, li_97, li_99, li_100, li_122, li_126, li_127, li_150, li_160, li_200, li_225, li_255, li_400, li_799, li_800, li_999, li_2400, li_3239, li_3240, li_1048575, li_1431655765, li_858993459, li_252645135, eqb_j, ltb_j, leb_j, inb_j, ix_j, ix_n, nz_b, nz_0, nz_1, eqb_b, bnot, vI_ne, vI_eq, gIL, gLI, gIR, gRI, gLR, gRL, Int.reduceLT, Int.reduceLE, Int.reduceEq, Int.reduceAdd, Int.reduceSub, Int.reduceMul, Int.reduceNeg, Int.reduceToNat, Nat.reduceEqDiff, reduceIte, if_neg, if_pos, gI_ne, ll_0, ll_1, ll_3, ll_5, ll_9, ll_10, ll_13, ll_14, ll_19, ll_20, ll_32, ll_60, ll_126, ll_799, ll_1024, ll_1048576, ll_67108864, Zladd, Zlsub, Zlmul, Zlneg, toL, lg_lt, lg_gt, lg_le, gIv 98, w32, mnM, sh, i1]
      by_cases g4 : fb_ct ms n' ≤ 4
      · by_cases gb : vI m 98 33 = 0
        · -- the asks are picked
          have FrC : ∀ w, Fr (fun c k => c = 68 ∧ k = 7 ∨ c = 69) m w → CAll w (vI m) := fun w hF => hC.congr (fun c k hc => hF.1 c k (by omega)) (fun _ _ _ => rfl)
          obtain ⟨hLP⟩ : Nonempty (∀ w : qM, Fr (fun c k => c = 68 ∧ k = 7 ∨ c = 69) m w → vI w 68 7 = (fb_ct ms n' : Nat) → (∀ k, k < n' → ms k = true → vI w 69 (fb_ct ms k) = k) → (∀ k, k < n' → ms k = true → vI m 125 k = -1) → Reach (vI m) (kth ms n') (fun s => decide (0 ≤ s)) (fb_ct ms n') (enB (kth ms n') (fun s => decide (0 ≤ s)) (fb_ct ms n') 0 (vI m) (-1, vI m)).2 ∧ wp (fX0_layPicked (Zi 1048575) w) (fun y m' => y = Zi (cntL (enB (kth ms n') (fun s => decide (0 ≤ s)) (fb_ct ms n') 0 (vI m) (-1, vI m)).2 (kth ms n') (fb_ct ms n')) ∧ CAll m' (enB (kth ms n') (fun s => decide (0 ≤ s)) (fb_ct ms n') 0 (vI m) (-1, vI m)).2 ∧ FP w m')) := ⟨fun w hF h7 h69 hu => by
            have hPk := Pk.of hD ms n' (by omega) g4 hu
            exact layPicked_s hPk w (FrC w hF) h7 (fun j hj => by
              have h := kth_s hj
              have := h69 _ h.1 h.2.1
              rw [h.2.2] at this
              exact this) (Zi 1048575) (fun s hs => by
              rw [decide_eq_true (Nat.zero_le s)]
              have : ∀ s, s < 20 → bt (Zi 1048575) s = true := by decide +kernel
              exact this s hs)⟩
          have key29 : ∀ (r i g : Nat) (w : qM), i + r = 30 → r < g → Fr (fun c k => c = 68 ∧ k = 7 ∨ c = 69) m w → vI w 68 7 = (fb_ct ms i : Nat) → (∀ k, k < i → ms k = true → vI w 69 (fb_ct ms k) = k) → (∀ k, k < i → ms k = true → vI m 125 k = -1) → wp (fX11_best_29 g (Zi z) (Zi i) w) (fun y m' => ((∃ k, k < n' ∧ ms k = true ∧ vI m 125 k ≠ -1) → y = Zi (-4) ∧ Fr (fun c k => c = 68 ∧ k = 7 ∨ c = 69) m m') ∧ ((∀ k, k < n' → ms k = true → vI m 125 k = -1) → y = Zi (cntL (enB (kth ms n') (fun s => decide (0 ≤ s)) (fb_ct ms n') 0 (vI m) (-1, vI m)).2 (kth ms n') (fb_ct ms n')) ∧ CAll m' (enB (kth ms n') (fun s => decide (0 ≤ s)) (fb_ct ms n') 0 (vI m) (-1, vI m)).2 ∧ (∀ c k, ¬ (c = 58 ∧ 13 ≤ k ∧ k ≤ 16 ∨ c = 62 ∨ 64 ≤ c ∧ c ≤ 72) → gI m' c k = gI m c k) ∧ gR m' = gR m)) := by
            intro r
            induction r with
            | zero =>
              intro i g w hi hg hF h7 h69 hu
              obtain ⟨g, rfl⟩ : ∃ g', g = g' + 1 := ⟨g - 1, by omega⟩
              have hi' : i = 30 := by omega
              subst hi'
              rw [show 30 = n' + (30 - n') by omega, tot] at h7
              obtain ⟨-, y, m1, e1, e2, e3, e4⟩ := hLP w hF h7 (fun k hk hm => h69 k (by omega) hm) (fun k hk hm => hu k (by omega) hm)
              refine wp_e (x := y) (m := m1) ?_ ⟨fun ⟨k, k1, k2, k3⟩ => absurd (hu k (by omega) k2) k3, fun _ => ⟨e2, e3, fun c k hc => ?_, ?_⟩⟩
              · simp (disch := omega) only [fX11_best_29, qbI_s, qbL_s, qbV_s, qbR_s, qbR_n, qbN_s, qbN_n, qbIX_s, qbIX_n, qbVX_s, qbVX_n, cond_true, cond_false, cond_dec, jadd, jsub, jmul, jneg, li_0, li_1, li_2, li_3, li_4, li_5, li_6, li_7, li_8, li_9, li_10, li_14, li_15, li_16, li_19, li_20, li_24, li_30, li_31, li_32, li_39, li_40, li_48, li_57, li_59, li_60, li_63, li_65, li_80, li_81, li_90, li_97, li_99, li_100, li_122, li_126, li_127, li_150, li_160, li_200, li_225, li_255, li_400, li_799, li_800, li_999, li_2400, li_3239, li_3240, li_1048575, li_1431655765, li_858993459, li_252645135, eqb_j, ltb_j, leb_j, inb_j, ix_j, ix_n, nz_b, nz_0, nz_1, eqb_b, bnot, vI_ne, vI_eq, gIL, gLI, gIR, gRI, gLR, gRL, Int.reduceLT, Int.reduceLE, Int.reduceEq, Int.reduceAdd, Int.reduceSub, Int.reduceMul, Int.reduceNeg, Int.reduceToNat, Nat.reduceEqDiff, reduceIte, if_neg, if_pos, gI_ne, e1]
              · rw [e4.1 c k (by omega)]
                exact hF.1 c k (by omega)
              · rw [e4.2]
                exact hF.2.2
            | succ r ih =>
              intro i g w hi hg hF h7 h69 hu
              obtain ⟨g, rfl⟩ : ∃ g', g = g' + 1 := ⟨g - 1, by omega⟩
              have hh := has i w (by omega)
              have cli := fb_ct_le ms i
              cases hb : ms i
              · rw [hb] at hh
                have nx := ih (i + 1) g w (by omega) (by omega) hF (by rw [fb_ct_succ, hb]; exact h7) (fun k hk hm => by
                  have : k ≠ i := fun y => (by rw [y, hb] at hm; cases hm)
                  exact h69 k (by omega) hm) (fun k hk hm => by
                  have : k ≠ i := fun y => (by rw [y, hb] at hm; cases hm)
                  exact hu k (by omega) hm)
                simp (disch := omega) only [fX11_best_29, fX11_best_47, qbI_s, qbL_s, qbV_s, qbR_s, qbR_n, qbN_s, qbN_n, qbIX_s, qbIX_n, qbVX_s, qbVX_n, cond_true, cond_false, cond_dec, jadd, jsub, jmul, jneg, li_0, li_1, li_2, li_3, li_4, li_5, li_6, li_7, li_8, li_9, li_10, li_14, li_15, li_16, li_19, li_20, li_24, li_30, li_31, li_32, li_39, li_40, li_48, li_57, li_59, li_60, li_63, li_65, li_80, li_81, li_90, li_97, li_99, li_100, li_122, li_126, li_127, li_150, li_160, li_200, li_225, li_255, li_400, li_799, li_800, li_999, li_2400, li_3239, li_3240, li_1048575, li_1431655765, li_858993459, li_252645135, eqb_j, ltb_j, leb_j, inb_j, ix_j, ix_n, nz_b, nz_0, nz_1, eqb_b, bnot, vI_ne, vI_eq, gIL, gLI, gIR, gRI, gLR, gRL, Int.reduceLT, Int.reduceLE, Int.reduceEq, Int.reduceAdd, Int.reduceSub, Int.reduceMul, Int.reduceNeg, Int.reduceToNat, Nat.reduceEqDiff, reduceIte, if_neg, if_pos, gI_ne, hh, show bI false = 0 from rfl]
                exact nx
              · rw [hb] at hh
                have hin : i < n' := by
                  by_cases h : i < n'
                  · exact h
                  · have := hbig i (by omega)
                    rw [hb] at this
                    cases this
                have ld := laidD w (vI m) (FrC w hF).2.2.2.2.2.1 i (by omega)
                by_cases hl : vI m 125 i = -1
                · rw [show isLd (vI m) i = false from decide_eq_false (fun y => y hl)] at ld
                  have clt : fb_ct ms i < 4 := by
                    have := fb_ct_mono ms (show i + 1 ≤ n' by omega)
                    rw [fb_ct_succ, hb, if_pos rfl] at this
                    omega
                  have pk := pick_s w (fb_ct ms i) i h7 clt
                  have nx := ih (i + 1) g _ (by omega) (by omega) ((hF.wI 69 (fb_ct ms i) (Zi i) (by omega)).wI 68 7 (Zi ((fb_ct ms i : Nat) + 1)) (by omega)) (by
                    rw [fb_ct_succ, hb, if_pos rfl]
                    simp (disch := omega) only [qbI_s, qbL_s, qbV_s, qbR_s, qbR_n, qbN_s, qbN_n, qbIX_s, qbIX_n, qbVX_s, qbVX_n, cond_true, cond_false, cond_dec, jadd, jsub, jmul, jneg, li_0, li_1, li_2, li_3, li_4, li_5, li_6, li_7, li_8, li_9, li_10, li_14, li_15, li_16, li_19, li_20, li_24, li_30, li_31, li_32, li_39, li_40, li_48, li_57, li_59, li_60, li_63, li_65, li_80, li_81, li_90, li_97, li_99, li_100, li_122, li_126, li_127, li_150, li_160, li_200, li_225, li_255, li_400, li_799, li_800, li_999, li_2400, li_3239, li_3240, li_1048575, li_1431655765, li_858993459, li_252645135, eqb_j, ltb_j, leb_j, inb_j, ix_j, ix_n, nz_b, nz_0, nz_1, eqb_b, bnot, vI_ne, vI_eq, gIL, gLI, gIR, gRI, gLR, gRL, Int.reduceLT, Int.reduceLE, Int.reduceEq, Int.reduceAdd, Int.reduceSub, Int.reduceMul, Int.reduceNeg, Int.reduceToNat, Nat.reduceEqDiff, reduceIte, if_neg, if_pos, gI_ne]
                    rfl) (fun k hk hm => by
                    rw [vI_ne (by omega)]
                    by_cases e : k = i
                    · rw [e]
                      simp (disch := omega) only [qbI_s, qbL_s, qbV_s, qbR_s, qbR_n, qbN_s, qbN_n, qbIX_s, qbIX_n, qbVX_s, qbVX_n, cond_true, cond_false, cond_dec, jadd, jsub, jmul, jneg, li_0, li_1, li_2, li_3, li_4, li_5, li_6, li_7, li_8, li_9, li_10, li_14, li_15, li_16, li_19, li_20, li_24, li_30, li_31, li_32, li_39, li_40, li_48, li_57, li_59, li_60, li_63, li_65, li_80, li_81, li_90, li_97, li_99, li_100, li_122, li_126, li_127, li_150, li_160, li_200, li_225, li_255, li_400, li_799, li_800, li_999, li_2400, li_3239, li_3240, li_1048575, li_1431655765, li_858993459, li_252645135, eqb_j, ltb_j, leb_j, inb_j, ix_j, ix_n, nz_b, nz_0, nz_1, eqb_b, bnot, vI_ne, vI_eq, gIL, gLI, gIR, gRI, gLR, gRL, Int.reduceLT, Int.reduceLE, Int.reduceEq, Int.reduceAdd, Int.reduceSub, Int.reduceMul, Int.reduceNeg, Int.reduceToNat, Nat.reduceEqDiff, reduceIte, if_neg, if_pos, gI_ne]
                    · have hne : fb_ct ms k ≠ fb_ct ms i := fun y => e (fb_ct_kth_one hm hb y)
                      rw [vI_of (show gI (sI w 69 (fb_ct ms i) (Zi i)) 69 (fb_ct ms k) = gI w 69 (fb_ct ms k) by rw [gI_eq, if_neg hne])]
                      exact h69 k (by omega) hm) (fun k hk hm => by
                    by_cases e : k = i
                    · rw [e]; exact hl
                    · exact hu k (by omega) hm)
                  simp (disch := omega) only [fX11_best_29, fX11_best_47, qbI_s, qbL_s, qbV_s, qbR_s, qbR_n, qbN_s, qbN_n, qbIX_s, qbIX_n, qbVX_s, qbVX_n, cond_true, cond_false, cond_dec, jadd, jsub, jmul, jneg, li_0, li_1, li_2, li_3, li_4, li_5, li_6, li_7, li_8, li_9, li_10, li_14, li_15, li_16, li_19, li_20, li_24, li_30, li_31, li_32, li_39, li_40, li_48, li_57, li_59, li_60, li_63, li_65, li_80, li_81, li_90, li_97, li_99, li_100, li_122, li_126, li_127, li_150, li_160, li_200, li_225, li_255, li_400, li_799, li_800, li_999, li_2400, li_3239, li_3240, li_1048575, li_1431655765, li_858993459, li_252645135, eqb_j, ltb_j, leb_j, inb_j, ix_j, ix_n, nz_b, nz_0, nz_1, eqb_b, bnot, vI_ne, vI_eq, gIL, gLI, gIR, gRI, gLR, gRL, Int.reduceLT, Int.reduceLE, Int.reduceEq, Int.reduceAdd, Int.reduceSub, Int.reduceMul, Int.reduceNeg, Int.reduceToNat, Nat.reduceEqDiff, reduceIte, if_neg, if_pos, gI_ne, hh, show bI true = 1 from rfl, ld, show bI false = 0 from rfl, pk]
                  exact nx
                · rw [show isLd (vI m) i = true from decide_eq_true hl] at ld
                  refine wp_e (x := Zi (-4)) (m := w) ?_ ⟨fun _ => ⟨rfl, hF⟩, fun h => absurd (h i hin hb) hl⟩
                  simp (disch := omega) only [fX11_best_29, qbI_s, qbL_s, qbV_s, qbR_s, qbR_n, qbN_s, qbN_n, qbIX_s, qbIX_n, qbVX_s, qbVX_n, cond_true, cond_false, cond_dec, jadd, jsub, jmul, jneg, li_0, li_1, li_2, li_3, li_4, li_5, li_6, li_7, li_8, li_9, li_10, li_14, li_15, li_16, li_19, li_20, li_24, li_30, li_31, li_32, li_39, li_40, li_48, li_57, li_59, li_60, li_63, li_65, li_80, li_81, li_90, li_97, li_99, li_100, li_122, li_126, li_127, li_150, li_160, li_200, li_225, li_255, li_400, li_799, li_800, li_999, li_2400, li_3239, li_3240, li_1048575, li_1431655765, li_858993459, li_252645135, eqb_j, ltb_j, leb_j, inb_j, ix_j, ix_n, nz_b, nz_0, nz_1, eqb_b, bnot, vI_ne, vI_eq, gIL, gLI, gIR, gRI, gLR, gRL, Int.reduceLT, Int.reduceLE, Int.reduceEq, Int.reduceAdd, Int.reduceSub, Int.reduceMul, Int.reduceNeg, Int.reduceToNat, Nat.reduceEqDiff, reduceIte, if_neg, if_pos, gI_ne, hh, show bI true = 1 from rfl, ld]
          obtain ⟨y, m1, e1, e2, e3⟩ := key29 30 0 FU (sI m 68 7 (Zi 0)) (by omega) (by rw [FU_d]; omega) ((Fr.rf m).wI 68 7 _ (by omega)) (by simp (disch := omega) only [qbI_s, qbL_s, qbV_s, qbR_s, qbR_n, qbN_s, qbN_n, qbIX_s, qbIX_n, qbVX_s, qbVX_n, cond_true, cond_false, cond_dec, jadd, jsub, jmul, jneg, li_0, li_1, li_2, li_3, li_4, li_5, li_6, li_7, li_8, li_9, li_10, li_14, li_15, li_16, li_19, li_20, li_24, li_30, li_31, li_32, li_39, li_40, li_48, li_57, li_59, li_60, li_63, li_65, li_80, li_81, li_90, li_97, li_99, li_100, li_122, li_126, li_127, li_150, li_160, li_200, li_225, li_255, li_400, li_799, li_800, li_999, li_2400, li_3239, li_3240, li_1048575, li_1431655765, li_858993459, li_252645135, eqb_j, ltb_j, leb_j, inb_j, ix_j, ix_n, nz_b, nz_0, nz_1, eqb_b, bnot, vI_ne, vI_eq, gIL, gLI, gIR, gRI, gLR, gRL, Int.reduceLT, Int.reduceLE, Int.reduceEq, Int.reduceAdd, Int.reduceSub, Int.reduceMul, Int.reduceNeg, Int.reduceToNat, Nat.reduceEqDiff, reduceIte, if_neg, if_pos, gI_ne]; rfl) (fun k hk => by omega) (fun k hk => by omega)
          have cl : fX0_clear m = some ((), sI m 68 7 (Zi 0)) := by
            rw [fX0_clear_d]
            simp (disch := omega) only [fX0_clear_0, qbI_s, qbL_s, qbV_s, qbR_s, qbR_n, qbN_s, qbN_n, qbIX_s, qbIX_n, qbVX_s, qbVX_n, cond_true, cond_false, cond_dec, jadd, jsub, jmul, jneg, li_0, li_1, li_2, li_3, li_4, li_5, li_6, li_7, li_8, li_9, li_10, li_14, li_15, li_16, li_19, li_20, li_24, li_30, li_31, li_32, li_39, li_40, li_48, li_57, li_59, li_60, li_63, li_65, li_80, li_81, li_90, li_97, li_99, li_100, li_122, li_126, li_127, li_150, li_160, li_200, li_225, li_255, li_400, li_799, li_800, li_999, li_2400, li_3239, li_3240, li_1048575, li_1431655765, li_858993459, li_252645135, eqb_j, ltb_j, leb_j, inb_j, ix_j, ix_n, nz_b, nz_0, nz_1, eqb_b, bnot, vI_ne, vI_eq, gIL, gLI, gIR, gRI, gLR, gRL, Int.reduceLT, Int.reduceLE, Int.reduceEq, Int.reduceAdd, Int.reduceSub, Int.reduceMul, Int.reduceNeg, Int.reduceToNat, Nat.reduceEqDiff, reduceIte, if_neg, if_pos, gI_ne]
          have eC : fX11_best (Zi z) m = some (y, m1) := by
            have e1' : fX11_best_29 FU (Zi z) (Zi 0) (sI m 68 7 (Zi 0)) = some (y, m1) := e1
            rw [fX11_best_d]
            simp (disch := omega) only [fX11_best_0, fX4_asks_d, fX4_asks_0, qbI_s, qbL_s, qbV_s, qbR_s, qbR_n, qbN_s, qbN_n, qbIX_s, qbIX_n, qbVX_s, qbVX_n, cond_true, cond_false, cond_dec, jadd, jsub, jmul, jneg, li_0, li_1, li_2, li_3, li_4, li_5, li_6, li_7, li_8, li_9, li_10, li_14, li_15, li_16, li_19, li_20, li_24, li_30, li_31, li_32, li_39, li_40, li_48, li_57, li_59, li_60, li_63, li_65, li_80, li_81, li_90, li_97, li_99, li_100, li_122, li_126, li_127, li_150, li_160, li_200, li_225, li_255, li_400, li_799, li_800, li_999, li_2400, li_3239, li_3240, li_1048575, li_1431655765, li_858993459, li_252645135, eqb_j, ltb_j, leb_j, inb_j, ix_j, ix_n, nz_b, nz_0, nz_1, eqb_b, bnot, vI_ne, vI_eq, gIL, gLI, gIR, gRI, gLR, gRL, Int.reduceLT, Int.reduceLE, Int.reduceEq, Int.reduceAdd, Int.reduceSub, Int.reduceMul, Int.reduceNeg, Int.reduceToNat, Nat.reduceEqDiff, reduceIte, if_neg, if_pos, gI_ne, gIv 58, hasks, hn, mnC, sz, pc, gIv 0, b1, gb, cl, e1']
          by_cases hx : ∃ k, k < n' ∧ ms k = true ∧ vI m 125 k ≠ -1
          · obtain ⟨hy, hF⟩ := e2 hx
            have hv : ∀ c k, ¬ (c = 68 ∧ k = 7 ∨ c = 69) → vI m1 c k = vI m c k := fun c k hc => hF.v c k hc
            have rM := r0 m1 (fun c k hc => hv c k (by unfold dP at hc; omega))
            rw [pd_t hx] at rM
            clear e2 e3 key29 hLP key21 z21 r0
            clear hx
            refine QOp.ok (x := y) (y := Zi (-4)) (m1 := m1) (m2 := m1) eC ?_ hy (R0.of_C hR (fun c k hc => hF.1 c k (by omega)) hF.2.2 ((FrC m1 hF).congr (fun _ _ _ => rfl) (fun c k hc => hv c k (by unfold dP at hc; omega)))) (Or.inl fun j hj => ?_)
            · rw [rM]
              simp (disch := omega) only [fX13_best_50, fX13_best_60, qbI_s, qbL_s, qbV_s, qbR_s, qbR_n, qbN_s, qbN_n, qbIX_s, qbIX_n, qbVX_s, qbVX_n, cond_true, cond_false, cond_dec, jadd, jsub, jmul, jneg, li_0, li_1, li_2, li_3, li_4, li_5, li_6, li_7, li_8, li_9, li_10, li_14, li_15, li_16, li_19, li_20, li_24, li_30, li_31, li_32, li_39, li_40, li_48, li_57, li_59, li_60, li_63, li_65, li_80, li_81, li_90, li_97, li_99, li_100, li_122, li_126, li_127, li_150, li_160, li_200, li_225, li_255, li_400, li_799, li_800, li_999, li_2400, li_3239, li_3240, li_1048575, li_1431655765, li_858993459, li_252645135, eqb_j, ltb_j, leb_j, inb_j, ix_j, ix_n, nz_b, nz_0, nz_1, eqb_b, bnot, vI_ne, vI_eq, gIL, gLI, gIR, gRI, gLR, gRL, Int.reduceLT, Int.reduceLE, Int.reduceEq, Int.reduceAdd, Int.reduceSub, Int.reduceMul, Int.reduceNeg, Int.reduceToNat, Nat.reduceEqDiff, reduceIte, if_neg, if_pos, gI_ne, show bI true = 1 from rfl]
              all_goals rfl
            · rw [hv 83 j (by omega)]
              exact (hBe.2.2 gb).2 j hj
          · have hu : ∀ k, k < n' → ms k = true → vI m 125 k = -1 := fun k k1 k2 => by
              by_cases h : vI m 125 k = -1
              · exact h
              · exact absurd ⟨k, k1, k2, h⟩ hx
            obtain ⟨hy, hC1, hF1, hg1⟩ := e3 hu
            have hPk := Pk.of hD ms n' (by omega) g4 hu
            have hv : ∀ c k, ¬ (c = 58 ∧ 13 ≤ k ∧ k ≤ 16 ∨ c = 62 ∨ 64 ≤ c ∧ c ≤ 72) → vI m1 c k = vI m c k := fun c k hc => vI_of (hF1 c k hc)
            have dv : ∀ c k, dP c k → vI m1 c k = vI m c k := fun c k hc => hv c k (by unfold dP at hc; omega)
            have rM := r0 m1 dv
            rw [pd_f hx] at rM
            clear hx
            have m32 : vI m1 98 32 = n := (hv 98 32 (by omega)).trans hn
            have m33 : vI m1 98 33 = 0 := (hv 98 33 (by omega)).trans gb
            have key67 : ∀ (r i g : Nat) (w : qM), i + r = n' → r < g → Fr (fun c k => c = 98 ∧ k = 43 ∨ c = 129) m1 w → vI w 98 43 = (fb_ct ms i : Nat) → (∀ k, k < i → ms k = true → vI w 129 (fb_ct ms k) = k) → ∃ w', fX13_best_67 fX13_best_95 g (Zi z) (Zi i) w = fX13_best_95 w' ∧ Fr (fun c k => c = 98 ∧ k = 43 ∨ c = 129) m1 w' ∧ vI w' 98 43 = (fb_ct ms n' : Nat) ∧ (∀ k, k < n' → ms k = true → vI w' 129 (fb_ct ms k) = k) := by
              intro r
              induction r with
              | zero =>
                intro i g w hi hg hF h43 h129
                obtain ⟨g, rfl⟩ : ∃ g', g = g' + 1 := ⟨g - 1, by omega⟩
                have hi' : i = n' := by omega
                subst hi'
                have w32 : vI w 98 32 = n := (hF.v 98 32 (by omega)).trans m32
                refine ⟨w, ?_, hF, h43, h129⟩
                by_cases h30 : i = 30
                · simp (disch := omega) only [fX13_best_67, qbI_s, qbL_s, qbV_s, qbR_s, qbR_n, qbN_s, qbN_n, qbIX_s, qbIX_n, qbVX_s, qbVX_n, cond_true, cond_false, cond_dec, jadd, jsub, jmul, jneg, li_0, li_1, li_2, li_3, li_4, li_5, li_6, li_7, li_8, li_9, li_10, li_14, li_15, li_16, li_19, li_20, li_24, li_30, li_31, li_32, li_39, li_40, li_48, li_57, li_59, li_60, li_63, li_65, li_80, li_81, li_90, li_97, li_99, li_100, li_122, li_126, li_127, li_150, li_160, li_200, li_225, li_255, li_400, li_799, li_800, li_999, li_2400, li_3239, li_3240, li_1048575, li_1431655765, li_858993459, li_252645135, eqb_j, ltb_j, leb_j, inb_j, ix_j, ix_n, nz_b, nz_0, nz_1, eqb_b, bnot, vI_ne, vI_eq, gIL, gLI, gIR, gRI, gLR, gRL, Int.reduceLT, Int.reduceLE, Int.reduceEq, Int.reduceAdd, Int.reduceSub, Int.reduceMul, Int.reduceNeg, Int.reduceToNat, Nat.reduceEqDiff, reduceIte, if_neg, if_pos, gI_ne]
                · simp (disch := omega) only [fX13_best_67, qbI_s, qbL_s, qbV_s, qbR_s, qbR_n, qbN_s, qbN_n, qbIX_s, qbIX_n, qbVX_s, qbVX_n, cond_true, cond_false, cond_dec, jadd, jsub, jmul, jneg, li_0, li_1, li_2, li_3, li_4, li_5, li_6, li_7, li_8, li_9, li_10, li_14, li_15, li_16, li_19, li_20, li_24, li_30, li_31, li_32, li_39, li_40, li_48, li_57, li_59, li_60, li_63, li_65, li_80, li_81, li_90, li_97, li_99, li_100, li_122, li_126, li_127, li_150, li_160, li_200, li_225, li_255, li_400, li_799, li_800, li_999, li_2400, li_3239, li_3240, li_1048575, li_1431655765, li_858993459, li_252645135, eqb_j, ltb_j, leb_j, inb_j, ix_j, ix_n, nz_b, nz_0, nz_1, eqb_b, bnot, vI_ne, vI_eq, gIL, gLI, gIR, gRI, gLR, gRL, Int.reduceLT, Int.reduceLE, Int.reduceEq, Int.reduceAdd, Int.reduceSub, Int.reduceMul, Int.reduceNeg, Int.reduceToNat, Nat.reduceEqDiff, reduceIte, if_neg, if_pos, gI_ne, gIv 98, w32]
              | succ r ih =>
                intro i g w hi hg hF h43 h129
                obtain ⟨g, rfl⟩ : ∃ g', g = g' + 1 := ⟨g - 1, by omega⟩
                have w32 : vI w 98 32 = n := (hF.v 98 32 (by omega)).trans m32
                have bi := bit i (by omega)
                have cli := fb_ct_le ms i
                cases hb : ms i
                · rw [hb] at bi
                  obtain ⟨w', i1, i2⟩ := ih (i + 1) g w (by omega) (by omega) hF (by rw [fb_ct_succ, hb]; exact h43) (fun k hk hm => by
                    have : k ≠ i := fun y => (by rw [y, hb] at hm; cases hm)
                    exact h129 k (by omega) hm)
                  refine ⟨w', ?_, i2⟩
                  rw [← i1]
                  simp (disch := omega) only [fX13_best_67, fX13_best_93, qbI_s, qbL_s, qbV_s, qbR_s, qbR_n, qbN_s, qbN_n, qbIX_s, qbIX_n, qbVX_s, qbVX_n, cond_true, cond_false, cond_dec, jadd, jsub, jmul, jneg, li_0, li_1, li_2, li_3, li_4, li_5, li_6, li_7, li_8, li_9, li_10, li_14, li_15, li_16, li_19, li_20, li_24, li_30, li_31, li_32, li_39, li_40, li_48, li_57, li_59, li_60, li_63, li_65, li_80, li_81, li_90, li_97, li_99, li_100, li_122, li_126, li_127, li_150, li_160, li_200, li_225, li_255, li_400, li_799, li_800, li_999, li_2400, li_3239, li_3240, li_1048575, li_1431655765, li_858993459, li_252645135, eqb_j, ltb_j, leb_j, inb_j, ix_j, ix_n, nz_b, nz_0, nz_1, eqb_b, bnot, vI_ne, vI_eq, gIL, gLI, gIR, gRI, gLR, gRL, Int.reduceLT, Int.reduceLE, Int.reduceEq, Int.reduceAdd, Int.reduceSub, Int.reduceMul, Int.reduceNeg, Int.reduceToNat, Nat.reduceEqDiff, reduceIte, if_neg, if_pos, gI_ne, gIv 98, w32, bi, Bool.not_false]
                  all_goals rfl
                · rw [hb] at bi
                  have clt : fb_ct ms i < 4 := by
                    have := fb_ct_mono ms (show i + 1 ≤ n' by omega)
                    rw [fb_ct_succ, hb, if_pos rfl] at this
                    omega
                  obtain ⟨w', i1, i2⟩ := ih (i + 1) g (sI (sI w 129 (fb_ct ms i) (Zi i)) 98 43 (Zi ((fb_ct ms i : Nat) + 1))) (by omega) (by omega) ((hF.wI 129 (fb_ct ms i) (Zi i) (by omega)).wI 98 43 _ (by omega)) (by
                    rw [fb_ct_succ, hb, if_pos rfl]
                    simp (disch := omega) only [qbI_s, qbL_s, qbV_s, qbR_s, qbR_n, qbN_s, qbN_n, qbIX_s, qbIX_n, qbVX_s, qbVX_n, cond_true, cond_false, cond_dec, jadd, jsub, jmul, jneg, li_0, li_1, li_2, li_3, li_4, li_5, li_6, li_7, li_8, li_9, li_10, li_14, li_15, li_16, li_19, li_20, li_24, li_30, li_31, li_32, li_39, li_40, li_48, li_57, li_59, li_60, li_63, li_65, li_80, li_81, li_90, li_97, li_99, li_100, li_122, li_126, li_127, li_150, li_160, li_200, li_225, li_255, li_400, li_799, li_800, li_999, li_2400, li_3239, li_3240, li_1048575, li_1431655765, li_858993459, li_252645135, eqb_j, ltb_j, leb_j, inb_j, ix_j, ix_n, nz_b, nz_0, nz_1, eqb_b, bnot, vI_ne, vI_eq, gIL, gLI, gIR, gRI, gLR, gRL, Int.reduceLT, Int.reduceLE, Int.reduceEq, Int.reduceAdd, Int.reduceSub, Int.reduceMul, Int.reduceNeg, Int.reduceToNat, Nat.reduceEqDiff, reduceIte, if_neg, if_pos, gI_ne]
                    rfl) (fun k hk hm => by
                    rw [vI_ne (by omega)]
                    by_cases e : k = i
                    · rw [e]
                      simp (disch := omega) only [qbI_s, qbL_s, qbV_s, qbR_s, qbR_n, qbN_s, qbN_n, qbIX_s, qbIX_n, qbVX_s, qbVX_n, cond_true, cond_false, cond_dec, jadd, jsub, jmul, jneg, li_0, li_1, li_2, li_3, li_4, li_5, li_6, li_7, li_8, li_9, li_10, li_14, li_15, li_16, li_19, li_20, li_24, li_30, li_31, li_32, li_39, li_40, li_48, li_57, li_59, li_60, li_63, li_65, li_80, li_81, li_90, li_97, li_99, li_100, li_122, li_126, li_127, li_150, li_160, li_200, li_225, li_255, li_400, li_799, li_800, li_999, li_2400, li_3239, li_3240, li_1048575, li_1431655765, li_858993459, li_252645135, eqb_j, ltb_j, leb_j, inb_j, ix_j, ix_n, nz_b, nz_0, nz_1, eqb_b, bnot, vI_ne, vI_eq, gIL, gLI, gIR, gRI, gLR, gRL, Int.reduceLT, Int.reduceLE, Int.reduceEq, Int.reduceAdd, Int.reduceSub, Int.reduceMul, Int.reduceNeg, Int.reduceToNat, Nat.reduceEqDiff, reduceIte, if_neg, if_pos, gI_ne]
                    · have hne : fb_ct ms k ≠ fb_ct ms i := fun y => e (fb_ct_kth_one hm hb y)
                      rw [vI_of (show gI (sI w 129 (fb_ct ms i) (Zi i)) 129 (fb_ct ms k) = gI w 129 (fb_ct ms k) by rw [gI_eq, if_neg hne])]
                      exact h129 k (by omega) hm)
                  refine ⟨w', ?_, i2⟩
                  rw [← i1]
                  simp (disch := omega) only [fX13_best_67, fX13_best_93, qbI_s, qbL_s, qbV_s, qbR_s, qbR_n, qbN_s, qbN_n, qbIX_s, qbIX_n, qbVX_s, qbVX_n, cond_true, cond_false, cond_dec, jadd, jsub, jmul, jneg, li_0, li_1, li_2, li_3, li_4, li_5, li_6, li_7, li_8, li_9, li_10, li_14, li_15, li_16, li_19, li_20, li_24, li_30, li_31, li_32, li_39, li_40, li_48, li_57, li_59, li_60, li_63, li_65, li_80, li_81, li_90, li_97, li_99, li_100, li_122, li_126, li_127, li_150, li_160, li_200, li_225, li_255, li_400, li_799, li_800, li_999, li_2400, li_3239, li_3240, li_1048575, li_1431655765, li_858993459, li_252645135, eqb_j, ltb_j, leb_j, inb_j, ix_j, ix_n, nz_b, nz_0, nz_1, eqb_b, bnot, vI_ne, vI_eq, gIL, gLI, gIR, gRI, gLR, gRL, Int.reduceLT, Int.reduceLE, Int.reduceEq, Int.reduceAdd, Int.reduceSub, Int.reduceMul, Int.reduceNeg, Int.reduceToNat, Nat.reduceEqDiff, reduceIte, if_neg, if_pos, gI_ne, gIv 98, w32, h43, bi, Bool.not_true]
                  all_goals rfl
            obtain ⟨w', t1, t2, t3, t4⟩ := key67 n' 0 FU (sI m1 98 43 (Zi 0)) (by omega) (by rw [FU_d]; omega) ((Fr.rf m1).wI 98 43 _ (by omega)) (by simp (disch := omega) only [qbI_s, qbL_s, qbV_s, qbR_s, qbR_n, qbN_s, qbN_n, qbIX_s, qbIX_n, qbVX_s, qbVX_n, cond_true, cond_false, cond_dec, jadd, jsub, jmul, jneg, li_0, li_1, li_2, li_3, li_4, li_5, li_6, li_7, li_8, li_9, li_10, li_14, li_15, li_16, li_19, li_20, li_24, li_30, li_31, li_32, li_39, li_40, li_48, li_57, li_59, li_60, li_63, li_65, li_80, li_81, li_90, li_97, li_99, li_100, li_122, li_126, li_127, li_150, li_160, li_200, li_225, li_255, li_400, li_799, li_800, li_999, li_2400, li_3239, li_3240, li_1048575, li_1431655765, li_858993459, li_252645135, eqb_j, ltb_j, leb_j, inb_j, ix_j, ix_n, nz_b, nz_0, nz_1, eqb_b, bnot, vI_ne, vI_eq, gIL, gLI, gIR, gRI, gLR, gRL, Int.reduceLT, Int.reduceLE, Int.reduceEq, Int.reduceAdd, Int.reduceSub, Int.reduceMul, Int.reduceNeg, Int.reduceToNat, Nat.reduceEqDiff, reduceIte, if_neg, if_pos, gI_ne]; rfl) (fun k hk => by omega)
            obtain ⟨y2, m2, l1, l2, l3, l4⟩ := layBest_s (d0 := vI m) (p := kth ms n') (al := fun s => decide (0 ≤ s)) (N := fb_ct ms n') hPk w' hC.2.2.2.2.2.2.2.1 (fun c k hc => by rw [t2.v c k (by unfold dP at hc; omega)]; exact dv c k hc) t3 (fun j hj => by
              have h := kth_s hj
              have := t4 _ h.1 h.2.1
              rw [h.2.2] at this
              exact this) 0 (by omega) (fun s => rfl)
            have q2 : ∀ c k, ¬ (c = 98 ∧ 43 ≤ k ∧ k ≤ 49 ∨ c = 125 ∨ 127 ≤ c ∧ c ≤ 131) → gI m2 c k = gI m1 c k := fun c k hc => (l4.1 c k (by omega)).trans (t2.1 c k (by omega))
            have hC2 : CAll m2 (vI m2) := hC1.congr (fun c k hc => q2 c k (by omega)) l3
            refine QOp.ok (x := y) (y := y2) (m1 := m1) (m2 := m2) eC ?_ (hy.trans l2.symm) (R0.of_C hR (fun c k hc => (q2 c k (by omega)).trans (hF1 c k (by omega))) ((l4.2.2.trans t2.2.2).trans hg1) hC2) (Or.inl fun j hj => ?_)
            · have t1' : fX13_best_67 fX13_best_95 FU (Zi z) (Zi 0) (sI m1 98 43 (Zi 0)) = fX13_best_95 w' := t1
              rw [rM]
              simp (disch := omega) only [fX13_best_50, fX13_best_95, qbI_s, qbL_s, qbV_s, qbR_s, qbR_n, qbN_s, qbN_n, qbIX_s, qbIX_n, qbVX_s, qbVX_n, cond_true, cond_false, cond_dec, jadd, jsub, jmul, jneg, li_0, li_1, li_2, li_3, li_4, li_5, li_6, li_7, li_8, li_9, li_10, li_14, li_15, li_16, li_19, li_20, li_24, li_30, li_31, li_32, li_39, li_40, li_48, li_57, li_59, li_60, li_63, li_65, li_80, li_81, li_90, li_97, li_99, li_100, li_122, li_126, li_127, li_150, li_160, li_200, li_225, li_255, li_400, li_799, li_800, li_999, li_2400, li_3239, li_3240, li_1048575, li_1431655765, li_858993459, li_252645135, eqb_j, ltb_j, leb_j, inb_j, ix_j, ix_n, nz_b, nz_0, nz_1, eqb_b, bnot, vI_ne, vI_eq, gIL, gLI, gIR, gRI, gLR, gRL, Int.reduceLT, Int.reduceLE, Int.reduceEq, Int.reduceAdd, Int.reduceSub, Int.reduceMul, Int.reduceNeg, Int.reduceToNat, Nat.reduceEqDiff, reduceIte, if_neg, if_pos, gI_ne, show bI false = 0 from rfl, gIv 98, m33, t1']
              have l1' : fX13_layBest (Zi 0) w' = some (y2, m2) := l1
              simp (disch := omega) only [fX13_best_95, qbI_s, qbL_s, qbV_s, qbR_s, qbR_n, qbN_s, qbN_n, qbIX_s, qbIX_n, qbVX_s, qbVX_n, cond_true, cond_false, cond_dec, jadd, jsub, jmul, jneg, li_0, li_1, li_2, li_3, li_4, li_5, li_6, li_7, li_8, li_9, li_10, li_14, li_15, li_16, li_19, li_20, li_24, li_30, li_31, li_32, li_39, li_40, li_48, li_57, li_59, li_60, li_63, li_65, li_80, li_81, li_90, li_97, li_99, li_100, li_122, li_126, li_127, li_150, li_160, li_200, li_225, li_255, li_400, li_799, li_800, li_999, li_2400, li_3239, li_3240, li_1048575, li_1431655765, li_858993459, li_252645135, eqb_j, ltb_j, leb_j, inb_j, ix_j, ix_n, nz_b, nz_0, nz_1, eqb_b, bnot, vI_ne, vI_eq, gIL, gLI, gIR, gRI, gLR, gRL, Int.reduceLT, Int.reduceLE, Int.reduceEq, Int.reduceAdd, Int.reduceSub, Int.reduceMul, Int.reduceNeg, Int.reduceToNat, Nat.reduceEqDiff, reduceIte, if_neg, if_pos, gI_ne, l1']
            · rw [vI_of (q2 83 j (by omega)), hv 83 j (by omega)]
              exact (hBe.2.2 gb).2 j hj
        · have rM := r0 m (fun _ _ _ => rfl)
          refine QOp.same (x := Zi (-4)) hR ?_ ?_
          · rw [fX11_best_d]
            simp (disch := omega) only [fX11_best_0, fX4_asks_d, fX4_asks_0, qbI_s, qbL_s, qbV_s, qbR_s, qbR_n, qbN_s, qbN_n, qbIX_s, qbIX_n, qbVX_s, qbVX_n, cond_true, cond_false, cond_dec, jadd, jsub, jmul, jneg, li_0, li_1, li_2, li_3, li_4, li_5, li_6, li_7, li_8, li_9, li_10, li_14, li_15, li_16, li_19, li_20, li_24, li_30, li_31, li_32, li_39, li_40, li_48, li_57, li_59, li_60, li_63, li_65, li_80, li_81, li_90, li_97, li_99, li_100, li_122, li_126, li_127, li_150, li_160, li_200, li_225, li_255, li_400, li_799, li_800, li_999, li_2400, li_3239, li_3240, li_1048575, li_1431655765, li_858993459, li_252645135, eqb_j, ltb_j, leb_j, inb_j, ix_j, ix_n, nz_b, nz_0, nz_1, eqb_b, bnot, vI_ne, vI_eq, gIL, gLI, gIR, gRI, gLR, gRL, Int.reduceLT, Int.reduceLE, Int.reduceEq, Int.reduceAdd, Int.reduceSub, Int.reduceMul, Int.reduceNeg, Int.reduceToNat, Nat.reduceEqDiff, reduceIte, if_neg, if_pos, gI_ne, gIv 58, hasks, hn, mnC, sz, pc, gIv 0, b1]
          · rw [rM]
            generalize pd (∃ k, k < n' ∧ ms k = true ∧ vI m 125 k ≠ -1) = B
            cases B
            · simp (disch := omega) only [fX13_best_50, fX13_best_60, qbI_s, qbL_s, qbV_s, qbR_s, qbR_n, qbN_s, qbN_n, qbIX_s, qbIX_n, qbVX_s, qbVX_n, cond_true, cond_false, cond_dec, jadd, jsub, jmul, jneg, li_0, li_1, li_2, li_3, li_4, li_5, li_6, li_7, li_8, li_9, li_10, li_14, li_15, li_16, li_19, li_20, li_24, li_30, li_31, li_32, li_39, li_40, li_48, li_57, li_59, li_60, li_63, li_65, li_80, li_81, li_90, li_97, li_99, li_100, li_122, li_126, li_127, li_150, li_160, li_200, li_225, li_255, li_400, li_799, li_800, li_999, li_2400, li_3239, li_3240, li_1048575, li_1431655765, li_858993459, li_252645135, eqb_j, ltb_j, leb_j, inb_j, ix_j, ix_n, nz_b, nz_0, nz_1, eqb_b, bnot, vI_ne, vI_eq, gIL, gLI, gIR, gRI, gLR, gRL, Int.reduceLT, Int.reduceLE, Int.reduceEq, Int.reduceAdd, Int.reduceSub, Int.reduceMul, Int.reduceNeg, Int.reduceToNat, Nat.reduceEqDiff, reduceIte, if_neg, if_pos, gI_ne, show bI false = 0 from rfl, gIv 98]
              all_goals rfl
            · simp (disch := omega) only [fX13_best_50, fX13_best_60, qbI_s, qbL_s, qbV_s, qbR_s, qbR_n, qbN_s, qbN_n, qbIX_s, qbIX_n, qbVX_s, qbVX_n, cond_true, cond_false, cond_dec, jadd, jsub, jmul, jneg, li_0, li_1, li_2, li_3, li_4, li_5, li_6, li_7, li_8, li_9, li_10, li_14, li_15, li_16, li_19, li_20, li_24, li_30, li_31, li_32, li_39, li_40, li_48, li_57, li_59, li_60, li_63, li_65, li_80, li_81, li_90, li_97, li_99, li_100, li_122, li_126, li_127, li_150, li_160, li_200, li_225, li_255, li_400, li_799, li_800, li_999, li_2400, li_3239, li_3240, li_1048575, li_1431655765, li_858993459, li_252645135, eqb_j, ltb_j, leb_j, inb_j, ix_j, ix_n, nz_b, nz_0, nz_1, eqb_b, bnot, vI_ne, vI_eq, gIL, gLI, gIR, gRI, gLR, gRL, Int.reduceLT, Int.reduceLE, Int.reduceEq, Int.reduceAdd, Int.reduceSub, Int.reduceMul, Int.reduceNeg, Int.reduceToNat, Nat.reduceEqDiff, reduceIte, if_neg, if_pos, gI_ne, show bI true = 1 from rfl, gIv 98]
              all_goals rfl
      · have rM := r0 m (fun _ _ _ => rfl)
        refine QOp.same (x := Zi (-3)) hR ?_ ?_
        · rw [fX11_best_d]
          simp (disch := omega) only [fX11_best_0, fX4_asks_d, fX4_asks_0, qbI_s, qbL_s, qbV_s, qbR_s, qbR_n, qbN_s, qbN_n, qbIX_s, qbIX_n, qbVX_s, qbVX_n, cond_true, cond_false, cond_dec, jadd, jsub, jmul, jneg, li_0, li_1, li_2, li_3, li_4, li_5, li_6, li_7, li_8, li_9, li_10, li_14, li_15, li_16, li_19, li_20, li_24, li_30, li_31, li_32, li_39, li_40, li_48, li_57, li_59, li_60, li_63, li_65, li_80, li_81, li_90, li_97, li_99, li_100, li_122, li_126, li_127, li_150, li_160, li_200, li_225, li_255, li_400, li_799, li_800, li_999, li_2400, li_3239, li_3240, li_1048575, li_1431655765, li_858993459, li_252645135, eqb_j, ltb_j, leb_j, inb_j, ix_j, ix_n, nz_b, nz_0, nz_1, eqb_b, bnot, vI_ne, vI_eq, gIL, gLI, gIR, gRI, gLR, gRL, Int.reduceLT, Int.reduceLE, Int.reduceEq, Int.reduceAdd, Int.reduceSub, Int.reduceMul, Int.reduceNeg, Int.reduceToNat, Nat.reduceEqDiff, reduceIte, if_neg, if_pos, gI_ne, gIv 58, hasks, hn, mnC, sz, pc]
          all_goals rfl
        · rw [rM]
          simp (disch := omega) only [fX13_best_50, qbI_s, qbL_s, qbV_s, qbR_s, qbR_n, qbN_s, qbN_n, qbIX_s, qbIX_n, qbVX_s, qbVX_n, cond_true, cond_false, cond_dec, jadd, jsub, jmul, jneg, li_0, li_1, li_2, li_3, li_4, li_5, li_6, li_7, li_8, li_9, li_10, li_14, li_15, li_16, li_19, li_20, li_24, li_30, li_31, li_32, li_39, li_40, li_48, li_57, li_59, li_60, li_63, li_65, li_80, li_81, li_90, li_97, li_99, li_100, li_122, li_126, li_127, li_150, li_160, li_200, li_225, li_255, li_400, li_799, li_800, li_999, li_2400, li_3239, li_3240, li_1048575, li_1431655765, li_858993459, li_252645135, eqb_j, ltb_j, leb_j, inb_j, ix_j, ix_n, nz_b, nz_0, nz_1, eqb_b, bnot, vI_ne, vI_eq, gIL, gLI, gIR, gRI, gLR, gRL, Int.reduceLT, Int.reduceLE, Int.reduceEq, Int.reduceAdd, Int.reduceSub, Int.reduceMul, Int.reduceNeg, Int.reduceToNat, Nat.reduceEqDiff, reduceIte, if_neg, if_pos, gI_ne]
          all_goals rfl
    · have i := inM m
      rw [decide_eq_false (by omega)] at i
      rw [decide_eq_false g1] at sz
      refine QOp.same (x := Zi (-2)) hR ?_ ?_
      · rw [fX11_best_d]
        simp (disch := omega) only [fX11_best_0, fX11_best_11, fX4_asks_d, fX4_asks_0, qbI_s, qbL_s, qbV_s, qbR_s, qbR_n, qbN_s, qbN_n, qbIX_s, qbIX_n, qbVX_s, qbVX_n, cond_true, cond_false, cond_dec, jadd, jsub, jmul, jneg, li_0, li_1, li_2, li_3, li_4, li_5, li_6, li_7, li_8, li_9, li_10, li_14, li_15, li_16, li_19, li_20, li_24, li_30, li_31, li_32, li_39, li_40, li_48, li_57, li_59, li_60, li_63, li_65, li_80, li_81, li_90, li_97, li_99, li_100, li_122, li_126, li_127, li_150, li_160, li_200, li_225, li_255, li_400, li_799, li_800, li_999, li_2400, li_3239, li_3240, li_1048575, li_1431655765, li_858993459, li_252645135, eqb_j, ltb_j, leb_j, inb_j, ix_j, ix_n, nz_b, nz_0, nz_1, eqb_b, bnot, vI_ne, vI_eq, gIL, gLI, gIR, gRI, gLR, gRL, Int.reduceLT, Int.reduceLE, Int.reduceEq, Int.reduceAdd, Int.reduceSub, Int.reduceMul, Int.reduceNeg, Int.reduceToNat, Nat.reduceEqDiff, reduceIte, if_neg, if_pos, gI_ne, gIv 58, hasks, hn, mnC, sz]
        all_goals rfl
      · rw [fX13_best_d]
        simp (disch := omega) only [fX13_best_0, qbI_s, qbL_s, qbV_s, qbR_s, qbR_n, qbN_s, qbN_n, qbIX_s, qbIX_n, qbVX_s, qbVX_n, cond_true, cond_false, cond_dec, jadd, jsub, jmul, jneg, li_0, li_1, li_2, li_3, li_4, li_5, li_6, li_7, li_8, li_9, li_10, li_14, li_15, li_16, li_19, li_20, li_24, li_30, li_31, li_32, li_39, li_40, li_48, li_57, li_59, li_60, li_63, li_65, li_80, li_81, li_90, li_97, li_99, li_100, li_122, li_126, li_127, li_150, li_160, li_200, li_225, li_255, li_400, li_799, li_800, li_999, li_2400, li_3239, li_3240, li_1048575, li_1431655765, li_858993459, li_252645135, eqb_j, ltb_j, leb_j, inb_j, ix_j, ix_n, nz_b, nz_0, nz_1, eqb_b, bnot, vI_ne, vI_eq, gIL, gLI, gIR, gRI, gLR, gRL, Int.reduceLT, Int.reduceLE, Int.reduceEq, Int.reduceAdd, Int.reduceSub, Int.reduceMul, Int.reduceNeg, Int.reduceToNat, Nat.reduceEqDiff, reduceIte, if_neg, if_pos, gI_ne, ll_0, ll_1, ll_3, ll_5, ll_9, ll_10, ll_13, ll_14, ll_19, ll_20, ll_32, ll_60, ll_126, ll_799, ll_1024, ll_1048576, ll_67108864, Zladd, Zlsub, Zlmul, Zlneg, toL, lg_lt, lg_gt, lg_le, gIv 98, hn, mnM, sh, i, show bI false = 0 from rfl]
        all_goals rfl
