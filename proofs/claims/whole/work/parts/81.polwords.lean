/-! the policies' words (by program) -/
noncomputable def woV (T : Nat) (d : Nat → Int) (f u : Nat) (K : Int) : Int := if K = 1 then woP T (sgB d f u T) (qTlen T + 1) 0 0 0 else -1
theorem woP_r (T : Nat) (P : Nat → Nat → Bool) : ∀ r a s e, woP T P r a s e = -1 ∨ (a : Int) ≤ woP T P r a s e ∧ woP T P r a s e ≤ (a : Int) + r
  | 0, a, s, e => Or.inl rfl
  | r + 1, a, s, e => by
    rw [woP]
    split
    · split
      · exact Or.inr ⟨by omega, by omega⟩
      · exact Or.inl rfl
    · split
      · split
        · exact Or.inr ⟨by omega, by omega⟩
        · have := woP_r T P r (a + 1) (e + 1) (e + 1)
          omega
      · have := woP_r T P r a s (e + 1)
        omega
theorem woV_r (T : Nat) (hj : T < 27) (d : Nat → Int) (f u : Nat) (K : Int) : -1 ≤ woV T d f u K ∧ woV T d f u K ≤ 41 := by
  have h := woP_r T (sgB d f u T) (qTlen T + 1) 0 0 0
  have l := (len_all T hj).2.2
  unfold woV
  split <;> omega
theorem takeWord_s (m : qM) (d : Nat → Int) (n p : Nat) (hT : TC m d n) (h33 : vI m 3 3 = p) (hp : p ≤ n) (T : Nat) (hj : T < 27) : wp (fX6_takeWordOf (10100 + T) m) (fun y v' => Fr (fun c k => c = 3 ∧ 1 ≤ k ∧ k ≤ 5) m v' ∧ y = Zi (woV T d (tF d n p) (tU d n (tF d n p)) (tK d n (tF d n p))) ∧ ((0 ≤ woV T d (tF d n p) (tU d n (tF d n p)) (tK d n (tF d n p)) ∧ vI v' 3 3 = tU d n (tF d n p) ∧ gI v' 3 4 = gI m 3 4 ∧ gI v' 3 5 = gI m 3 5) ∨ (woV T d (tF d n p) (tU d n (tF d n p)) (tK d n (tF d n p)) = -1 ∧ vI v' 3 4 = 1 ∧ vI v' 3 5 = tF d n p))) := by
  have hn := hT.2.1
  obtain ⟨f1, f2⟩ := tF_r d n p hp
  obtain ⟨x, w, e, hF, h2, h3, h1⟩ := step_s m d n hT p h33 hp
  have hTw : TC w d n := hT.mono fun c k hc => hF.1 c k (by omega)
  generalize tF d n p = f at *
  obtain ⟨u1, u2⟩ := tU_r d n f f2
  have kr := tK_r d n f
  have hw : fX6_wordOf (10100 + T) w = some (Zi (woV T d f (tU d n f) (tK d n f)), w) := wordOf_s w d n hTw f (tU d n f) _ h1 h2 h3 ⟨u1, u2⟩ kr T hj
  have wr := woV_r T hj d f (tU d n f) (tK d n f)
  generalize woV T d f (tU d n f) (tK d n f) = z at *
  rw [fX6_takeWordOf_d]
  by_cases g : z = -1
  · refine wp_e (x := Zi (-1)) (m := sI (sI w 3 4 (Zi 1)) 3 5 (gI w 3 2)) ?_ ⟨((hF.wide fun c k hc => by omega).wI 3 4 _ (by omega)).wI 3 5 _ (by omega), by rw [g], Or.inr ⟨g, ?_, ?_⟩⟩
    · simp (disch := omega) only [fX6_takeWordOf_0, fX6_takeWordOf_14, qbI_s, qbL_s, qbV_s, qbR_s, qbR_n, qbN_s, qbN_n, qbIX_s, qbIX_n, qbVX_s, qbVX_n, cond_true, cond_false, cond_dec, jadd, jsub, jmul, jneg, li_0, li_1, li_2, li_3, li_4, li_5, li_6, li_7, li_8, li_9, li_10, li_14, li_15, li_16, li_19, li_20, li_24, li_30, li_31, li_32, li_39, li_40, li_48, li_57, li_59, li_60, li_63, li_65, li_80, li_81, li_90, li_97, li_99, li_100, li_122, li_126, li_127, li_150, li_160, li_200, li_225, li_255, li_400, li_799, li_800, li_999, li_2400, li_3239, li_3240, li_1048575, li_1431655765, li_858993459, li_252645135, eqb_j, ltb_j, leb_j, inb_j, ix_j, ix_n, nz_b, nz_0, nz_1, eqb_b, bnot, vI_ne, vI_eq, gIL, gLI, gIR, gRI, gLR, gRL, Int.reduceLT, Int.reduceLE, Int.reduceEq, Int.reduceAdd, Int.reduceSub, Int.reduceMul, Int.reduceNeg, Int.reduceToNat, Nat.reduceEqDiff, reduceIte, if_neg, if_pos, gI_ne, e, hw, g, show (-1 : Int32) = Zi (-1) from rfl, fail_s]
    · rw [vI_nk (by omega), vI_eq (by omega), if_pos rfl]
    · rw [gIv 3, h2, vI_eq (by omega), if_pos rfl]
  · refine wp_e (x := Zi z) (m := w) ?_ ⟨hF.wide fun c k hc => by omega, rfl, Or.inl ⟨by omega, h3, hF.1 3 4 (by omega), hF.1 3 5 (by omega)⟩⟩
    simp (disch := omega) only [fX6_takeWordOf_0, fX6_takeWordOf_14, qbI_s, qbL_s, qbV_s, qbR_s, qbR_n, qbN_s, qbN_n, qbIX_s, qbIX_n, qbVX_s, qbVX_n, cond_true, cond_false, cond_dec, jadd, jsub, jmul, jneg, li_0, li_1, li_2, li_3, li_4, li_5, li_6, li_7, li_8, li_9, li_10, li_14, li_15, li_16, li_19, li_20, li_24, li_30, li_31, li_32, li_39, li_40, li_48, li_57, li_59, li_60, li_63, li_65, li_80, li_81, li_90, li_97, li_99, li_100, li_122, li_126, li_127, li_150, li_160, li_200, li_225, li_255, li_400, li_799, li_800, li_999, li_2400, li_3239, li_3240, li_1048575, li_1431655765, li_858993459, li_252645135, eqb_j, ltb_j, leb_j, inb_j, ix_j, ix_n, nz_b, nz_0, nz_1, eqb_b, bnot, vI_ne, vI_eq, gIL, gLI, gIR, gRI, gLR, gRL, Int.reduceLT, Int.reduceLE, Int.reduceEq, Int.reduceAdd, Int.reduceSub, Int.reduceMul, Int.reduceNeg, Int.reduceToNat, Nat.reduceEqDiff, reduceIte, if_neg, if_pos, gI_ne, e, hw, show (-1 : Int32) = Zi (-1) from rfl]
theorem wo_1 (P : Nat → Nat → Bool) : woP 1 P (qTlen 1 + 1) 0 0 0 = if P 0 4 = true then 0 else -1 := rfl
theorem woV_1 (d : Nat → Int) (f u : Nat) (K : Int) : woV 1 d f u K = if K = 1 then (if wdB d f u 1 = true then 0 else -1) else -1 := by
  unfold woV
  rw [wo_1, sg_wd 1 0 4 1 (by decide) (by decide)]
theorem wo_2 (P : Nat → Nat → Bool) : woP 2 P (qTlen 2 + 1) 0 0 0 = if P 0 4 = true then 0 else if P 5 12 = true then 1 else if P 13 17 = true then 2 else if P 18 22 = true then 3 else if P 23 27 = true then 4 else if P 28 32 = true then 5 else -1 := rfl
theorem woV_2 (d : Nat → Int) (f u : Nat) (K : Int) : woV 2 d f u K = if K = 1 then (if wdB d f u 9 = true then 0 else if wdB d f u 12 = true then 1 else if wdB d f u 13 = true then 2 else if wdB d f u 14 = true then 3 else if wdB d f u 15 = true then 4 else if wdB d f u 6 = true then 5 else -1) else -1 := by
  unfold woV
  rw [wo_2, sg_wd 2 0 4 9 (by decide) (by decide), sg_wd 2 5 12 12 (by decide) (by decide), sg_wd 2 13 17 13 (by decide) (by decide), sg_wd 2 18 22 14 (by decide) (by decide), sg_wd 2 23 27 15 (by decide) (by decide), sg_wd 2 28 32 6 (by decide) (by decide)]
theorem wo_3 (P : Nat → Nat → Bool) : woP 3 P (qTlen 3 + 1) 0 0 0 = if P 0 5 = true then 0 else if P 6 11 = true then 1 else if P 12 14 = true then 2 else -1 := rfl
theorem woV_3 (d : Nat → Int) (f u : Nat) (K : Int) : woV 3 d f u K = if K = 1 then (if wdB d f u 16 = true then 0 else if wdB d f u 17 = true then 1 else if wdB d f u 18 = true then 2 else -1) else -1 := by
  unfold woV
  rw [wo_3, sg_wd 3 0 5 16 (by decide) (by decide), sg_wd 3 6 11 17 (by decide) (by decide), sg_wd 3 12 14 18 (by decide) (by decide)]
theorem wo_4 (P : Nat → Nat → Bool) : woP 4 P (qTlen 4 + 1) 0 0 0 = if P 0 2 = true then 0 else if P 3 6 = true then 1 else -1 := rfl
theorem woV_4 (d : Nat → Int) (f u : Nat) (K : Int) : woV 4 d f u K = if K = 1 then (if wdB d f u 20 = true then 0 else if wdB d f u 19 = true then 1 else -1) else -1 := by
  unfold woV
  rw [wo_4, sg_wd 4 0 2 20 (by decide) (by decide), sg_wd 4 3 6 19 (by decide) (by decide)]
theorem wo_5 (P : Nat → Nat → Bool) : woP 5 P (qTlen 5 + 1) 0 0 0 = if P 0 4 = true then 0 else if P 5 9 = true then 1 else if P 10 14 = true then 2 else if P 15 19 = true then 3 else if P 20 25 = true then 4 else if P 26 31 = true then 5 else -1 := rfl
theorem woV_5 (d : Nat → Int) (f u : Nat) (K : Int) : woV 5 d f u K = if K = 1 then (if wdB d f u 21 = true then 0 else if wdB d f u 22 = true then 1 else if wdB d f u 23 = true then 2 else if wdB d f u 24 = true then 3 else if wdB d f u 25 = true then 4 else if wdB d f u 26 = true then 5 else -1) else -1 := by
  unfold woV
  rw [wo_5, sg_wd 5 0 4 21 (by decide) (by decide), sg_wd 5 5 9 22 (by decide) (by decide), sg_wd 5 10 14 23 (by decide) (by decide), sg_wd 5 15 19 24 (by decide) (by decide), sg_wd 5 20 25 25 (by decide) (by decide), sg_wd 5 26 31 26 (by decide) (by decide)]
theorem cond_M (a : Int32) (w : qM) (d : Nat → Int) (n : Nat) (hT : TM w d n) (f u : Nat) (K : Int) (h14 : vI w 98 14 = f) (h15 : vI w 98 15 = u) (h16 : vI w 98 16 = K) (hfu : f ≤ u ∧ u ≤ n) (hK : 0 ≤ K ∧ K ≤ 4) (hsm : K = 1 → ∀ i, f ≤ i → i < u → 97 ≤ d i ∧ d i ≤ 122) : fX13_readCond a w = fX13_readCond_37 a (Zi (woV 2 d f u K)) w := by
  have hi := is_s w d n hT f u K h14 h15 h16 hfu hK hsm
  have i9 : fX13_is 10109 w = _ := hi 9 (by decide)
  have i12 : fX13_is 10112 w = _ := hi 12 (by decide)
  have i13 : fX13_is 10113 w = _ := hi 13 (by decide)
  have i14 : fX13_is 10114 w = _ := hi 14 (by decide)
  have i15 : fX13_is 10115 w = _ := hi 15 (by decide)
  have i6 : fX13_is 10106 w = _ := hi 6 (by decide)
  rw [fX13_readCond_d, woV_2]
  by_cases g : K = 1
  · rw [decide_eq_true g, Bool.true_and] at i9 i12 i13 i14 i15 i6
    rw [if_pos g]
    cases c9 : wdB d f u 9
    · rw [c9] at i9
      cases c12 : wdB d f u 12
      · rw [c12] at i12
        cases c13 : wdB d f u 13
        · rw [c13] at i13
          cases c14 : wdB d f u 14
          · rw [c14] at i14
            cases c15 : wdB d f u 15
            · rw [c15] at i15
              cases c6 : wdB d f u 6
              · rw [c6] at i6
                simp (disch := omega) only [fX13_readCond_0, i9, i12, i13, i14, i15, i6, qbI_s, qbL_s, qbV_s, qbR_s, qbR_n, qbN_s, qbN_n, qbIX_s, qbIX_n, qbVX_s, qbVX_n, cond_true, cond_false, cond_dec, jadd, jsub, jmul, jneg, li_0, li_1, li_2, li_3, li_4, li_5, li_6, li_7, li_8, li_9, li_10, li_14, li_15, li_16, li_19, li_20, li_24, li_30, li_31, li_32, li_39, li_40, li_48, li_57, li_59, li_60, li_63, li_65, li_80, li_81, li_90, li_97, li_99, li_100, li_122, li_126, li_127, li_150, li_160, li_200, li_225, li_255, li_400, li_799, li_800, li_999, li_2400, li_3239, li_3240, li_1048575, li_1431655765, li_858993459, li_252645135, eqb_j, ltb_j, leb_j, inb_j, ix_j, ix_n, nz_b, nz_0, nz_1, eqb_b, bnot, vI_ne, vI_eq, gIL, gLI, gIR, gRI, gLR, gRL, Int.reduceLT, Int.reduceLE, Int.reduceEq, Int.reduceAdd, Int.reduceSub, Int.reduceMul, Int.reduceNeg, Int.reduceToNat, Nat.reduceEqDiff, reduceIte, if_neg, if_pos, gI_ne, show bI false = 0 from rfl, show bI true = 1 from rfl, Bool.false_eq_true, show (-1 : Int32) = Zi (-1) from rfl]
              · rw [c6] at i6
                simp (disch := omega) only [fX13_readCond_0, i9, i12, i13, i14, i15, i6, qbI_s, qbL_s, qbV_s, qbR_s, qbR_n, qbN_s, qbN_n, qbIX_s, qbIX_n, qbVX_s, qbVX_n, cond_true, cond_false, cond_dec, jadd, jsub, jmul, jneg, li_0, li_1, li_2, li_3, li_4, li_5, li_6, li_7, li_8, li_9, li_10, li_14, li_15, li_16, li_19, li_20, li_24, li_30, li_31, li_32, li_39, li_40, li_48, li_57, li_59, li_60, li_63, li_65, li_80, li_81, li_90, li_97, li_99, li_100, li_122, li_126, li_127, li_150, li_160, li_200, li_225, li_255, li_400, li_799, li_800, li_999, li_2400, li_3239, li_3240, li_1048575, li_1431655765, li_858993459, li_252645135, eqb_j, ltb_j, leb_j, inb_j, ix_j, ix_n, nz_b, nz_0, nz_1, eqb_b, bnot, vI_ne, vI_eq, gIL, gLI, gIR, gRI, gLR, gRL, Int.reduceLT, Int.reduceLE, Int.reduceEq, Int.reduceAdd, Int.reduceSub, Int.reduceMul, Int.reduceNeg, Int.reduceToNat, Nat.reduceEqDiff, reduceIte, if_neg, if_pos, gI_ne, show bI false = 0 from rfl, show bI true = 1 from rfl, Bool.false_eq_true, show (-1 : Int32) = Zi (-1) from rfl]
            · rw [c15] at i15
              simp (disch := omega) only [fX13_readCond_0, i9, i12, i13, i14, i15, i6, qbI_s, qbL_s, qbV_s, qbR_s, qbR_n, qbN_s, qbN_n, qbIX_s, qbIX_n, qbVX_s, qbVX_n, cond_true, cond_false, cond_dec, jadd, jsub, jmul, jneg, li_0, li_1, li_2, li_3, li_4, li_5, li_6, li_7, li_8, li_9, li_10, li_14, li_15, li_16, li_19, li_20, li_24, li_30, li_31, li_32, li_39, li_40, li_48, li_57, li_59, li_60, li_63, li_65, li_80, li_81, li_90, li_97, li_99, li_100, li_122, li_126, li_127, li_150, li_160, li_200, li_225, li_255, li_400, li_799, li_800, li_999, li_2400, li_3239, li_3240, li_1048575, li_1431655765, li_858993459, li_252645135, eqb_j, ltb_j, leb_j, inb_j, ix_j, ix_n, nz_b, nz_0, nz_1, eqb_b, bnot, vI_ne, vI_eq, gIL, gLI, gIR, gRI, gLR, gRL, Int.reduceLT, Int.reduceLE, Int.reduceEq, Int.reduceAdd, Int.reduceSub, Int.reduceMul, Int.reduceNeg, Int.reduceToNat, Nat.reduceEqDiff, reduceIte, if_neg, if_pos, gI_ne, show bI false = 0 from rfl, show bI true = 1 from rfl, Bool.false_eq_true, show (-1 : Int32) = Zi (-1) from rfl]
          · rw [c14] at i14
            simp (disch := omega) only [fX13_readCond_0, i9, i12, i13, i14, i15, i6, qbI_s, qbL_s, qbV_s, qbR_s, qbR_n, qbN_s, qbN_n, qbIX_s, qbIX_n, qbVX_s, qbVX_n, cond_true, cond_false, cond_dec, jadd, jsub, jmul, jneg, li_0, li_1, li_2, li_3, li_4, li_5, li_6, li_7, li_8, li_9, li_10, li_14, li_15, li_16, li_19, li_20, li_24, li_30, li_31, li_32, li_39, li_40, li_48, li_57, li_59, li_60, li_63, li_65, li_80, li_81, li_90, li_97, li_99, li_100, li_122, li_126, li_127, li_150, li_160, li_200, li_225, li_255, li_400, li_799, li_800, li_999, li_2400, li_3239, li_3240, li_1048575, li_1431655765, li_858993459, li_252645135, eqb_j, ltb_j, leb_j, inb_j, ix_j, ix_n, nz_b, nz_0, nz_1, eqb_b, bnot, vI_ne, vI_eq, gIL, gLI, gIR, gRI, gLR, gRL, Int.reduceLT, Int.reduceLE, Int.reduceEq, Int.reduceAdd, Int.reduceSub, Int.reduceMul, Int.reduceNeg, Int.reduceToNat, Nat.reduceEqDiff, reduceIte, if_neg, if_pos, gI_ne, show bI false = 0 from rfl, show bI true = 1 from rfl, Bool.false_eq_true, show (-1 : Int32) = Zi (-1) from rfl]
        · rw [c13] at i13
          simp (disch := omega) only [fX13_readCond_0, i9, i12, i13, i14, i15, i6, qbI_s, qbL_s, qbV_s, qbR_s, qbR_n, qbN_s, qbN_n, qbIX_s, qbIX_n, qbVX_s, qbVX_n, cond_true, cond_false, cond_dec, jadd, jsub, jmul, jneg, li_0, li_1, li_2, li_3, li_4, li_5, li_6, li_7, li_8, li_9, li_10, li_14, li_15, li_16, li_19, li_20, li_24, li_30, li_31, li_32, li_39, li_40, li_48, li_57, li_59, li_60, li_63, li_65, li_80, li_81, li_90, li_97, li_99, li_100, li_122, li_126, li_127, li_150, li_160, li_200, li_225, li_255, li_400, li_799, li_800, li_999, li_2400, li_3239, li_3240, li_1048575, li_1431655765, li_858993459, li_252645135, eqb_j, ltb_j, leb_j, inb_j, ix_j, ix_n, nz_b, nz_0, nz_1, eqb_b, bnot, vI_ne, vI_eq, gIL, gLI, gIR, gRI, gLR, gRL, Int.reduceLT, Int.reduceLE, Int.reduceEq, Int.reduceAdd, Int.reduceSub, Int.reduceMul, Int.reduceNeg, Int.reduceToNat, Nat.reduceEqDiff, reduceIte, if_neg, if_pos, gI_ne, show bI false = 0 from rfl, show bI true = 1 from rfl, Bool.false_eq_true, show (-1 : Int32) = Zi (-1) from rfl]
      · rw [c12] at i12
        simp (disch := omega) only [fX13_readCond_0, i9, i12, i13, i14, i15, i6, qbI_s, qbL_s, qbV_s, qbR_s, qbR_n, qbN_s, qbN_n, qbIX_s, qbIX_n, qbVX_s, qbVX_n, cond_true, cond_false, cond_dec, jadd, jsub, jmul, jneg, li_0, li_1, li_2, li_3, li_4, li_5, li_6, li_7, li_8, li_9, li_10, li_14, li_15, li_16, li_19, li_20, li_24, li_30, li_31, li_32, li_39, li_40, li_48, li_57, li_59, li_60, li_63, li_65, li_80, li_81, li_90, li_97, li_99, li_100, li_122, li_126, li_127, li_150, li_160, li_200, li_225, li_255, li_400, li_799, li_800, li_999, li_2400, li_3239, li_3240, li_1048575, li_1431655765, li_858993459, li_252645135, eqb_j, ltb_j, leb_j, inb_j, ix_j, ix_n, nz_b, nz_0, nz_1, eqb_b, bnot, vI_ne, vI_eq, gIL, gLI, gIR, gRI, gLR, gRL, Int.reduceLT, Int.reduceLE, Int.reduceEq, Int.reduceAdd, Int.reduceSub, Int.reduceMul, Int.reduceNeg, Int.reduceToNat, Nat.reduceEqDiff, reduceIte, if_neg, if_pos, gI_ne, show bI false = 0 from rfl, show bI true = 1 from rfl, Bool.false_eq_true, show (-1 : Int32) = Zi (-1) from rfl]
    · rw [c9] at i9
      simp (disch := omega) only [fX13_readCond_0, i9, i12, i13, i14, i15, i6, qbI_s, qbL_s, qbV_s, qbR_s, qbR_n, qbN_s, qbN_n, qbIX_s, qbIX_n, qbVX_s, qbVX_n, cond_true, cond_false, cond_dec, jadd, jsub, jmul, jneg, li_0, li_1, li_2, li_3, li_4, li_5, li_6, li_7, li_8, li_9, li_10, li_14, li_15, li_16, li_19, li_20, li_24, li_30, li_31, li_32, li_39, li_40, li_48, li_57, li_59, li_60, li_63, li_65, li_80, li_81, li_90, li_97, li_99, li_100, li_122, li_126, li_127, li_150, li_160, li_200, li_225, li_255, li_400, li_799, li_800, li_999, li_2400, li_3239, li_3240, li_1048575, li_1431655765, li_858993459, li_252645135, eqb_j, ltb_j, leb_j, inb_j, ix_j, ix_n, nz_b, nz_0, nz_1, eqb_b, bnot, vI_ne, vI_eq, gIL, gLI, gIR, gRI, gLR, gRL, Int.reduceLT, Int.reduceLE, Int.reduceEq, Int.reduceAdd, Int.reduceSub, Int.reduceMul, Int.reduceNeg, Int.reduceToNat, Nat.reduceEqDiff, reduceIte, if_neg, if_pos, gI_ne, show bI false = 0 from rfl, show bI true = 1 from rfl, Bool.false_eq_true, show (-1 : Int32) = Zi (-1) from rfl]
  · rw [decide_eq_false g, Bool.false_and] at i9 i12 i13 i14 i15 i6
    rw [if_neg g]
    simp (disch := omega) only [fX13_readCond_0, i9, i12, i13, i14, i15, i6, qbI_s, qbL_s, qbV_s, qbR_s, qbR_n, qbN_s, qbN_n, qbIX_s, qbIX_n, qbVX_s, qbVX_n, cond_true, cond_false, cond_dec, jadd, jsub, jmul, jneg, li_0, li_1, li_2, li_3, li_4, li_5, li_6, li_7, li_8, li_9, li_10, li_14, li_15, li_16, li_19, li_20, li_24, li_30, li_31, li_32, li_39, li_40, li_48, li_57, li_59, li_60, li_63, li_65, li_80, li_81, li_90, li_97, li_99, li_100, li_122, li_126, li_127, li_150, li_160, li_200, li_225, li_255, li_400, li_799, li_800, li_999, li_2400, li_3239, li_3240, li_1048575, li_1431655765, li_858993459, li_252645135, eqb_j, ltb_j, leb_j, inb_j, ix_j, ix_n, nz_b, nz_0, nz_1, eqb_b, bnot, vI_ne, vI_eq, gIL, gLI, gIR, gRI, gLR, gRL, Int.reduceLT, Int.reduceLE, Int.reduceEq, Int.reduceAdd, Int.reduceSub, Int.reduceMul, Int.reduceNeg, Int.reduceToNat, Nat.reduceEqDiff, reduceIte, if_neg, if_pos, gI_ne, show bI false = 0 from rfl, show bI true = 1 from rfl, Bool.false_eq_true, show (-1 : Int32) = Zi (-1) from rfl]
theorem act_M (a : Int32) (w : qM) (d : Nat → Int) (n : Nat) (hT : TM w d n) (f u : Nat) (K : Int) (h14 : vI w 98 14 = f) (h15 : vI w 98 15 = u) (h16 : vI w 98 16 = K) (hfu : f ≤ u ∧ u ≤ n) (hK : 0 ≤ K ∧ K ≤ 4) (hsm : K = 1 → ∀ i, f ≤ i → i < u → 97 ≤ d i ∧ d i ≤ 122) : fX13_readAct a w = fX13_readAct_37 a (Zi (woV 5 d f u K)) w := by
  have hi := is_s w d n hT f u K h14 h15 h16 hfu hK hsm
  have i21 : fX13_is 10121 w = _ := hi 21 (by decide)
  have i22 : fX13_is 10122 w = _ := hi 22 (by decide)
  have i23 : fX13_is 10123 w = _ := hi 23 (by decide)
  have i24 : fX13_is 10124 w = _ := hi 24 (by decide)
  have i25 : fX13_is 10125 w = _ := hi 25 (by decide)
  have i26 : fX13_is 10126 w = _ := hi 26 (by decide)
  rw [fX13_readAct_d, woV_5]
  by_cases g : K = 1
  · rw [decide_eq_true g, Bool.true_and] at i21 i22 i23 i24 i25 i26
    rw [if_pos g]
    cases c21 : wdB d f u 21
    · rw [c21] at i21
      cases c22 : wdB d f u 22
      · rw [c22] at i22
        cases c23 : wdB d f u 23
        · rw [c23] at i23
          cases c24 : wdB d f u 24
          · rw [c24] at i24
            cases c25 : wdB d f u 25
            · rw [c25] at i25
              cases c26 : wdB d f u 26
              · rw [c26] at i26
                simp (disch := omega) only [fX13_readAct_0, i21, i22, i23, i24, i25, i26, qbI_s, qbL_s, qbV_s, qbR_s, qbR_n, qbN_s, qbN_n, qbIX_s, qbIX_n, qbVX_s, qbVX_n, cond_true, cond_false, cond_dec, jadd, jsub, jmul, jneg, li_0, li_1, li_2, li_3, li_4, li_5, li_6, li_7, li_8, li_9, li_10, li_14, li_15, li_16, li_19, li_20, li_24, li_30, li_31, li_32, li_39, li_40, li_48, li_57, li_59, li_60, li_63, li_65, li_80, li_81, li_90, li_97, li_99, li_100, li_122, li_126, li_127, li_150, li_160, li_200, li_225, li_255, li_400, li_799, li_800, li_999, li_2400, li_3239, li_3240, li_1048575, li_1431655765, li_858993459, li_252645135, eqb_j, ltb_j, leb_j, inb_j, ix_j, ix_n, nz_b, nz_0, nz_1, eqb_b, bnot, vI_ne, vI_eq, gIL, gLI, gIR, gRI, gLR, gRL, Int.reduceLT, Int.reduceLE, Int.reduceEq, Int.reduceAdd, Int.reduceSub, Int.reduceMul, Int.reduceNeg, Int.reduceToNat, Nat.reduceEqDiff, reduceIte, if_neg, if_pos, gI_ne, show bI false = 0 from rfl, show bI true = 1 from rfl, Bool.false_eq_true, show (-1 : Int32) = Zi (-1) from rfl]
              · rw [c26] at i26
                simp (disch := omega) only [fX13_readAct_0, i21, i22, i23, i24, i25, i26, qbI_s, qbL_s, qbV_s, qbR_s, qbR_n, qbN_s, qbN_n, qbIX_s, qbIX_n, qbVX_s, qbVX_n, cond_true, cond_false, cond_dec, jadd, jsub, jmul, jneg, li_0, li_1, li_2, li_3, li_4, li_5, li_6, li_7, li_8, li_9, li_10, li_14, li_15, li_16, li_19, li_20, li_24, li_30, li_31, li_32, li_39, li_40, li_48, li_57, li_59, li_60, li_63, li_65, li_80, li_81, li_90, li_97, li_99, li_100, li_122, li_126, li_127, li_150, li_160, li_200, li_225, li_255, li_400, li_799, li_800, li_999, li_2400, li_3239, li_3240, li_1048575, li_1431655765, li_858993459, li_252645135, eqb_j, ltb_j, leb_j, inb_j, ix_j, ix_n, nz_b, nz_0, nz_1, eqb_b, bnot, vI_ne, vI_eq, gIL, gLI, gIR, gRI, gLR, gRL, Int.reduceLT, Int.reduceLE, Int.reduceEq, Int.reduceAdd, Int.reduceSub, Int.reduceMul, Int.reduceNeg, Int.reduceToNat, Nat.reduceEqDiff, reduceIte, if_neg, if_pos, gI_ne, show bI false = 0 from rfl, show bI true = 1 from rfl, Bool.false_eq_true, show (-1 : Int32) = Zi (-1) from rfl]
            · rw [c25] at i25
              simp (disch := omega) only [fX13_readAct_0, i21, i22, i23, i24, i25, i26, qbI_s, qbL_s, qbV_s, qbR_s, qbR_n, qbN_s, qbN_n, qbIX_s, qbIX_n, qbVX_s, qbVX_n, cond_true, cond_false, cond_dec, jadd, jsub, jmul, jneg, li_0, li_1, li_2, li_3, li_4, li_5, li_6, li_7, li_8, li_9, li_10, li_14, li_15, li_16, li_19, li_20, li_24, li_30, li_31, li_32, li_39, li_40, li_48, li_57, li_59, li_60, li_63, li_65, li_80, li_81, li_90, li_97, li_99, li_100, li_122, li_126, li_127, li_150, li_160, li_200, li_225, li_255, li_400, li_799, li_800, li_999, li_2400, li_3239, li_3240, li_1048575, li_1431655765, li_858993459, li_252645135, eqb_j, ltb_j, leb_j, inb_j, ix_j, ix_n, nz_b, nz_0, nz_1, eqb_b, bnot, vI_ne, vI_eq, gIL, gLI, gIR, gRI, gLR, gRL, Int.reduceLT, Int.reduceLE, Int.reduceEq, Int.reduceAdd, Int.reduceSub, Int.reduceMul, Int.reduceNeg, Int.reduceToNat, Nat.reduceEqDiff, reduceIte, if_neg, if_pos, gI_ne, show bI false = 0 from rfl, show bI true = 1 from rfl, Bool.false_eq_true, show (-1 : Int32) = Zi (-1) from rfl]
          · rw [c24] at i24
            simp (disch := omega) only [fX13_readAct_0, i21, i22, i23, i24, i25, i26, qbI_s, qbL_s, qbV_s, qbR_s, qbR_n, qbN_s, qbN_n, qbIX_s, qbIX_n, qbVX_s, qbVX_n, cond_true, cond_false, cond_dec, jadd, jsub, jmul, jneg, li_0, li_1, li_2, li_3, li_4, li_5, li_6, li_7, li_8, li_9, li_10, li_14, li_15, li_16, li_19, li_20, li_24, li_30, li_31, li_32, li_39, li_40, li_48, li_57, li_59, li_60, li_63, li_65, li_80, li_81, li_90, li_97, li_99, li_100, li_122, li_126, li_127, li_150, li_160, li_200, li_225, li_255, li_400, li_799, li_800, li_999, li_2400, li_3239, li_3240, li_1048575, li_1431655765, li_858993459, li_252645135, eqb_j, ltb_j, leb_j, inb_j, ix_j, ix_n, nz_b, nz_0, nz_1, eqb_b, bnot, vI_ne, vI_eq, gIL, gLI, gIR, gRI, gLR, gRL, Int.reduceLT, Int.reduceLE, Int.reduceEq, Int.reduceAdd, Int.reduceSub, Int.reduceMul, Int.reduceNeg, Int.reduceToNat, Nat.reduceEqDiff, reduceIte, if_neg, if_pos, gI_ne, show bI false = 0 from rfl, show bI true = 1 from rfl, Bool.false_eq_true, show (-1 : Int32) = Zi (-1) from rfl]
        · rw [c23] at i23
          simp (disch := omega) only [fX13_readAct_0, i21, i22, i23, i24, i25, i26, qbI_s, qbL_s, qbV_s, qbR_s, qbR_n, qbN_s, qbN_n, qbIX_s, qbIX_n, qbVX_s, qbVX_n, cond_true, cond_false, cond_dec, jadd, jsub, jmul, jneg, li_0, li_1, li_2, li_3, li_4, li_5, li_6, li_7, li_8, li_9, li_10, li_14, li_15, li_16, li_19, li_20, li_24, li_30, li_31, li_32, li_39, li_40, li_48, li_57, li_59, li_60, li_63, li_65, li_80, li_81, li_90, li_97, li_99, li_100, li_122, li_126, li_127, li_150, li_160, li_200, li_225, li_255, li_400, li_799, li_800, li_999, li_2400, li_3239, li_3240, li_1048575, li_1431655765, li_858993459, li_252645135, eqb_j, ltb_j, leb_j, inb_j, ix_j, ix_n, nz_b, nz_0, nz_1, eqb_b, bnot, vI_ne, vI_eq, gIL, gLI, gIR, gRI, gLR, gRL, Int.reduceLT, Int.reduceLE, Int.reduceEq, Int.reduceAdd, Int.reduceSub, Int.reduceMul, Int.reduceNeg, Int.reduceToNat, Nat.reduceEqDiff, reduceIte, if_neg, if_pos, gI_ne, show bI false = 0 from rfl, show bI true = 1 from rfl, Bool.false_eq_true, show (-1 : Int32) = Zi (-1) from rfl]
      · rw [c22] at i22
        simp (disch := omega) only [fX13_readAct_0, i21, i22, i23, i24, i25, i26, qbI_s, qbL_s, qbV_s, qbR_s, qbR_n, qbN_s, qbN_n, qbIX_s, qbIX_n, qbVX_s, qbVX_n, cond_true, cond_false, cond_dec, jadd, jsub, jmul, jneg, li_0, li_1, li_2, li_3, li_4, li_5, li_6, li_7, li_8, li_9, li_10, li_14, li_15, li_16, li_19, li_20, li_24, li_30, li_31, li_32, li_39, li_40, li_48, li_57, li_59, li_60, li_63, li_65, li_80, li_81, li_90, li_97, li_99, li_100, li_122, li_126, li_127, li_150, li_160, li_200, li_225, li_255, li_400, li_799, li_800, li_999, li_2400, li_3239, li_3240, li_1048575, li_1431655765, li_858993459, li_252645135, eqb_j, ltb_j, leb_j, inb_j, ix_j, ix_n, nz_b, nz_0, nz_1, eqb_b, bnot, vI_ne, vI_eq, gIL, gLI, gIR, gRI, gLR, gRL, Int.reduceLT, Int.reduceLE, Int.reduceEq, Int.reduceAdd, Int.reduceSub, Int.reduceMul, Int.reduceNeg, Int.reduceToNat, Nat.reduceEqDiff, reduceIte, if_neg, if_pos, gI_ne, show bI false = 0 from rfl, show bI true = 1 from rfl, Bool.false_eq_true, show (-1 : Int32) = Zi (-1) from rfl]
    · rw [c21] at i21
      simp (disch := omega) only [fX13_readAct_0, i21, i22, i23, i24, i25, i26, qbI_s, qbL_s, qbV_s, qbR_s, qbR_n, qbN_s, qbN_n, qbIX_s, qbIX_n, qbVX_s, qbVX_n, cond_true, cond_false, cond_dec, jadd, jsub, jmul, jneg, li_0, li_1, li_2, li_3, li_4, li_5, li_6, li_7, li_8, li_9, li_10, li_14, li_15, li_16, li_19, li_20, li_24, li_30, li_31, li_32, li_39, li_40, li_48, li_57, li_59, li_60, li_63, li_65, li_80, li_81, li_90, li_97, li_99, li_100, li_122, li_126, li_127, li_150, li_160, li_200, li_225, li_255, li_400, li_799, li_800, li_999, li_2400, li_3239, li_3240, li_1048575, li_1431655765, li_858993459, li_252645135, eqb_j, ltb_j, leb_j, inb_j, ix_j, ix_n, nz_b, nz_0, nz_1, eqb_b, bnot, vI_ne, vI_eq, gIL, gLI, gIR, gRI, gLR, gRL, Int.reduceLT, Int.reduceLE, Int.reduceEq, Int.reduceAdd, Int.reduceSub, Int.reduceMul, Int.reduceNeg, Int.reduceToNat, Nat.reduceEqDiff, reduceIte, if_neg, if_pos, gI_ne, show bI false = 0 from rfl, show bI true = 1 from rfl, Bool.false_eq_true, show (-1 : Int32) = Zi (-1) from rfl]
  · rw [decide_eq_false g, Bool.false_and] at i21 i22 i23 i24 i25 i26
    rw [if_neg g]
    simp (disch := omega) only [fX13_readAct_0, i21, i22, i23, i24, i25, i26, qbI_s, qbL_s, qbV_s, qbR_s, qbR_n, qbN_s, qbN_n, qbIX_s, qbIX_n, qbVX_s, qbVX_n, cond_true, cond_false, cond_dec, jadd, jsub, jmul, jneg, li_0, li_1, li_2, li_3, li_4, li_5, li_6, li_7, li_8, li_9, li_10, li_14, li_15, li_16, li_19, li_20, li_24, li_30, li_31, li_32, li_39, li_40, li_48, li_57, li_59, li_60, li_63, li_65, li_80, li_81, li_90, li_97, li_99, li_100, li_122, li_126, li_127, li_150, li_160, li_200, li_225, li_255, li_400, li_799, li_800, li_999, li_2400, li_3239, li_3240, li_1048575, li_1431655765, li_858993459, li_252645135, eqb_j, ltb_j, leb_j, inb_j, ix_j, ix_n, nz_b, nz_0, nz_1, eqb_b, bnot, vI_ne, vI_eq, gIL, gLI, gIR, gRI, gLR, gRL, Int.reduceLT, Int.reduceLE, Int.reduceEq, Int.reduceAdd, Int.reduceSub, Int.reduceMul, Int.reduceNeg, Int.reduceToNat, Nat.reduceEqDiff, reduceIte, if_neg, if_pos, gI_ne, show bI false = 0 from rfl, show bI true = 1 from rfl, Bool.false_eq_true, show (-1 : Int32) = Zi (-1) from rfl]
