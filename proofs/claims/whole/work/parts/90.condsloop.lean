/-! one line's conditions: the loop -/
theorem tkW4_r (d : Nat → Int) (n p : Nat) : -1 ≤ tkW 4 d n p ∧ tkW 4 d n p ≤ 41 := woV_r 4 (by decide) d _ _ _
/-- the class, a good condition read, up to the word behind it -/
theorem condUp (d : Nat → Int) (n c p : Nat) (hc : c < 4) (hp : p ≤ n) (hok : cdOk d n p) (q l : Nat) (w : qM) (g : Nat) (hq : 9 ≤ q ∧ q ≤ 40) (hpol : qpol q = true) (hl : l < 8) (hT : TC w d n) (h33 : vI w 3 3 = p) : ∃ w2 : qM, Fr (fun x k => x = 3 ∧ 1 ≤ k ∧ k ≤ 5 ∨ x = q + 1 ∧ k = l ∨ (x = q + 2 ∨ x = q + 3 ∨ x = q + 4) ∧ k = 4 * l + c) w w2 ∧ vI w2 (q + 1) l = (c : Int) + 1 ∧ vI w2 (q + 2) (4 * l + c) = tkW 2 d n p ∧ vI w2 (q + 3) (4 * l + c) = tkW 3 d n (tkN d n p) ∧ vI w2 (q + 4) (4 * l + c) = tkV d n (tkN d n (tkN d n p)) ∧ vI w2 3 2 = tF d n (tkN d n (tkN d n (tkN d n p))) ∧ ((0 ≤ tkW 4 d n (tkN d n (tkN d n (tkN d n p))) ∧ vI w2 3 3 = tkN d n (tkN d n (tkN d n (tkN d n p))) ∧ gI w2 3 4 = gI w 3 4 ∧ gI w2 3 5 = gI w 3 5) ∨ (tkW 4 d n (tkN d n (tkN d n (tkN d n p))) = -1 ∧ vI w2 3 4 = 1 ∧ vI w2 3 5 = tF d n (tkN d n (tkN d n (tkN d n p))))) ∧ fX5_takeConditions_2 q (fX5_takeConditions_35 q) (g + 1) (Zi l) (Zi c) w = if tkW 4 d n (tkN d n (tkN d n (tkN d n p))) = 1 then fX5_takeConditions_2 q (fX5_takeConditions_35 q) g (Zi l) (Zi ((c : Int) + 1)) w2 else if tkW 4 d n (tkN d n (tkN d n (tkN d n p))) = 0 then some (Zi 1, w2) else some (Zi 0, w2) := by
  have b1 := tkN_r d n p hp
  have b2 := tkN_r d n (tkN d n p) b1.2
  have b3 := tkN_r d n (tkN d n (tkN d n p)) b2.2
  obtain ⟨y, w1, e1, hF, hd⟩ := takeCond_s w d n p hT h33 hp q (4 * l + c) hq (by omega)
  rcases hd with ⟨-, rfl, h2, h3, h4, h5, h6, h7⟩ | h
  · have e1' : fX5_takeCondition q (Zi ((l : Int) * 4 + c)) w = some (Zi 1, w1) := by
      rw [← e1]
      congr 2
      omega
    have F1 : Fr (fun x k => x = 3 ∧ 1 ≤ k ∧ k ≤ 5 ∨ x = q + 1 ∧ k = l ∨ (x = q + 2 ∨ x = q + 3 ∨ x = q + 4) ∧ k = 4 * l + c) w (sI w1 (q + 1) l (Zi ((c : Int) + 1))) := (hF.wide fun x k h => by omega).wI (q + 1) l _ (by omega)
    obtain ⟨y2, w2, e2, hF2, hy2, h32, hd2⟩ := takeWord_s2 (sI w1 (q + 1) l (Zi ((c : Int) + 1))) d n (tkN d n (tkN d n (tkN d n p))) (hT.mono fun x k h => F1.1 x k (by omega)) (by rw [vI_ne (by omega)]; exact h5) b3.2 4 (by decide)
    have qr := tkW4_r d n (tkN d n (tkN d n (tkN d n p)))
    generalize hP : tkN d n (tkN d n (tkN d n p)) = P at *
    subst hy2
    refine ⟨w2, F1.tr (hF2.wide fun x k h => by omega), ?_, ?_, ?_, ?_, h32, ?_, ?_⟩
    · rw [hF2.v (q + 1) l (by omega), vI_eq (by omega), if_pos rfl]
    · rw [hF2.v (q + 2) _ (by omega), vI_ne (by omega), h2]
    · rw [hF2.v (q + 3) _ (by omega), vI_ne (by omega), h3]
    · rw [hF2.v (q + 4) _ (by omega), vI_ne (by omega), h4]
    · rcases hd2 with ⟨k1, k2, k3, k4⟩ | ⟨k1, k2, k3⟩
      · refine Or.inl ⟨k1, k2, ?_, ?_⟩
        · rw [k3, gI_ne (by omega), h6]
        · rw [k4, gI_ne (by omega), h7]
      · exact Or.inr ⟨k1, k2, k3⟩
    · change fX6_takeWordOf 10104 _ = _ at e2
      rw [fX5_takeConditions_2]
      by_cases g1 : tkW 4 d n P = 1
      · rw [if_pos g1]
        rw [g1] at e2
        simp (disch := omega) only [qbI_s, qbL_s, qbV_s, qbR_s, qbR_n, qbN_s, qbN_n, qbIX_s, qbIX_n, qbVX_s, qbVX_n, cond_true, cond_false, cond_dec, jadd, jsub, jmul, jneg, li_0, li_1, li_2, li_3, li_4, li_5, li_6, li_7, li_8, li_9, li_10, li_14, li_15, li_16, li_19, li_20, li_24, li_30, li_31, li_32, li_39, li_40, li_48, li_57, li_59, li_60, li_63, li_65, li_80, li_81, li_90, li_97, li_99, li_100, li_122, li_126, li_127, li_150, li_160, li_200, li_225, li_255, li_400, li_799, li_800, li_999, li_2400, li_3239, li_3240, li_1048575, li_1431655765, li_858993459, li_252645135, eqb_j, ltb_j, leb_j, inb_j, ix_j, ix_n, nz_b, nz_0, nz_1, eqb_b, bnot, vI_ne, vI_eq, gIL, gLI, gIR, gRI, gLR, gRL, Int.reduceLT, Int.reduceLE, Int.reduceEq, Int.reduceAdd, Int.reduceSub, Int.reduceMul, Int.reduceNeg, Int.reduceToNat, Nat.reduceEqDiff, reduceIte, if_neg, if_pos, gI_ne, hpol, e1', e2]
      · rw [if_neg g1]
        by_cases g0 : tkW 4 d n P = 0
        · rw [if_pos g0]
          rw [g0] at e2
          simp (disch := omega) only [qbI_s, qbL_s, qbV_s, qbR_s, qbR_n, qbN_s, qbN_n, qbIX_s, qbIX_n, qbVX_s, qbVX_n, cond_true, cond_false, cond_dec, jadd, jsub, jmul, jneg, li_0, li_1, li_2, li_3, li_4, li_5, li_6, li_7, li_8, li_9, li_10, li_14, li_15, li_16, li_19, li_20, li_24, li_30, li_31, li_32, li_39, li_40, li_48, li_57, li_59, li_60, li_63, li_65, li_80, li_81, li_90, li_97, li_99, li_100, li_122, li_126, li_127, li_150, li_160, li_200, li_225, li_255, li_400, li_799, li_800, li_999, li_2400, li_3239, li_3240, li_1048575, li_1431655765, li_858993459, li_252645135, eqb_j, ltb_j, leb_j, inb_j, ix_j, ix_n, nz_b, nz_0, nz_1, eqb_b, bnot, vI_ne, vI_eq, gIL, gLI, gIR, gRI, gLR, gRL, Int.reduceLT, Int.reduceLE, Int.reduceEq, Int.reduceAdd, Int.reduceSub, Int.reduceMul, Int.reduceNeg, Int.reduceToNat, Nat.reduceEqDiff, reduceIte, if_neg, if_pos, gI_ne, hpol, e1', e2, fX5_takeConditions_35]
        · rw [if_neg g0]
          simp (disch := omega) only [qbI_s, qbL_s, qbV_s, qbR_s, qbR_n, qbN_s, qbN_n, qbIX_s, qbIX_n, qbVX_s, qbVX_n, cond_true, cond_false, cond_dec, jadd, jsub, jmul, jneg, li_0, li_1, li_2, li_3, li_4, li_5, li_6, li_7, li_8, li_9, li_10, li_14, li_15, li_16, li_19, li_20, li_24, li_30, li_31, li_32, li_39, li_40, li_48, li_57, li_59, li_60, li_63, li_65, li_80, li_81, li_90, li_97, li_99, li_100, li_122, li_126, li_127, li_150, li_160, li_200, li_225, li_255, li_400, li_799, li_800, li_999, li_2400, li_3239, li_3240, li_1048575, li_1431655765, li_858993459, li_252645135, eqb_j, ltb_j, leb_j, inb_j, ix_j, ix_n, nz_b, nz_0, nz_1, eqb_b, bnot, vI_ne, vI_eq, gIL, gLI, gIR, gRI, gLR, gRL, Int.reduceLT, Int.reduceLE, Int.reduceEq, Int.reduceAdd, Int.reduceSub, Int.reduceMul, Int.reduceNeg, Int.reduceToNat, Nat.reduceEqDiff, reduceIte, if_neg, if_pos, gI_ne, hpol, e1', e2, fX5_takeConditions_35]
  · exact absurd hok h.1
