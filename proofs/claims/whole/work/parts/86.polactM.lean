/-! a policy's act: the reference's -/
theorem woV5_r (d : Nat → Int) (f u : Nat) (K : Int) : woV 5 d f u K ≤ 5 := by
  rw [woV_5]
  split
  · split
    · omega
    · split
      · omega
      · split
        · omega
        · split
          · omega
          · split
            · omega
            · split <;> omega
  · omega
theorem readAct_s (v : qM) (d : Nat → Int) (n p : Nat) (hM : MT v d n p) (a : Nat) (ha : 32 ≤ a ∧ a < 40) : wp (fX13_readAct (Zi a) v) (fun y v' => Fr (fun c k => c = 98 ∧ 14 ≤ k ∧ k ≤ 19 ∨ (c = 102 ∨ c = 103) ∧ k = a) v v' ∧ ((acF d n p = (if tK d n (tF d n (acQ d n p)) = 3 then none else some (1, tF d n (acQ d n p))) ∧ y = some () ∧ (0 ≤ tkW 5 d n p ∧ tkW 5 d n p ≤ 5) ∧ ((tkW 5 d n p = 4 ∨ tkW 5 d n p = 5) → 1 ≤ acV d n p) ∧ (0 ≤ acV d n p ∧ acV d n p ≤ 30) ∧ vI v' 102 a = tkW 5 d n p ∧ vI v' 103 a = acV d n p ∧ MT v' d n (acQ d n p) ∧ gI v' 98 18 = gI v 98 18 ∧ gI v' 98 19 = gI v 98 19) ∨ (∃ (fk : Int) (fp : Nat), acF d n p = some (fk, fp) ∧ y = none ∧ vI v' 98 18 = fk ∧ vI v' 98 19 = fp))) := by
  have hM' := hM
  obtain ⟨hT, hp, h14, h15, h16, h17⟩ := hM'
  have hn := hT.2.1
  have b0 := tF_r d n p hp
  have b1 := tkN_r d n p hp
  have b2 := tkN_r d n (tkN d n p) b1.2
  have q1 : -1 ≤ tkW 5 d n p ∧ tkW 5 d n p ≤ 5 := ⟨(woV_r 5 (by decide) d (tF d n p) (tU d n (tF d n p)) (tK d n (tF d n p))).1, woV5_r d _ _ _⟩
  have hc : fX13_readAct (Zi a) v = fX13_readAct_37 (Zi a) (Zi (tkW 5 d n p)) v := act_M (Zi a) v d n hT _ _ _ h14 h15 h16 (tU_r d n (tF d n p) b0.2) (tK_r d n _) (fun h => tok_word h)
  rw [hc]
  by_cases gA : tkW 5 d n p = -1
  · refine wp_e (x := none) (m := sI (sI v 98 18 (Zi 1)) 98 19 (gI v 98 14)) ?_ ⟨((Fr.rf v).wI 98 18 _ (by omega)).wI 98 19 _ (by omega), Or.inr ⟨1, _, by rw [acF, if_pos gA], rfl, ?_, ?_⟩⟩
    · simp (disch := omega) only [fX13_readAct_37, gA, qbI_s, qbL_s, qbV_s, qbR_s, qbR_n, qbN_s, qbN_n, qbIX_s, qbIX_n, qbVX_s, qbVX_n, cond_true, cond_false, cond_dec, jadd, jsub, jmul, jneg, li_0, li_1, li_2, li_3, li_4, li_5, li_6, li_7, li_8, li_9, li_10, li_14, li_15, li_16, li_19, li_20, li_24, li_30, li_31, li_32, li_39, li_40, li_48, li_57, li_59, li_60, li_63, li_65, li_80, li_81, li_90, li_97, li_99, li_100, li_122, li_126, li_127, li_150, li_160, li_200, li_225, li_255, li_400, li_799, li_800, li_999, li_2400, li_3239, li_3240, li_1048575, li_1431655765, li_858993459, li_252645135, eqb_j, ltb_j, leb_j, inb_j, ix_j, ix_n, nz_b, nz_0, nz_1, eqb_b, bnot, vI_ne, vI_eq, gIL, gLI, gIR, gRI, gLR, gRL, Int.reduceLT, Int.reduceLE, Int.reduceEq, Int.reduceAdd, Int.reduceSub, Int.reduceMul, Int.reduceNeg, Int.reduceToNat, Nat.reduceEqDiff, reduceIte, if_neg, if_pos, gI_ne, show (-1 : Int32) = Zi (-1) from rfl, wrong_s, show Nat.beq 109 109 = true from rfl]
    · rw [vI_nk (by omega), vI_eq (by omega), if_pos rfl]
    · rw [gIv 98, h14, vI_eq (by omega), if_pos rfl]
  · obtain ⟨x1, w1, e1, hM1, hF1⟩ := MT.of (p := tkN d n p) hT h15 b1.2
    obtain ⟨z, hz⟩ : ∃ z : qM, z = sI w1 102 a (Zi (tkW 5 d n p)) := ⟨_, rfl⟩
    have Fz : Fr (fun c k => c = 98 ∧ 14 ≤ k ∧ k ≤ 19 ∨ (c = 102 ∨ c = 103) ∧ k = a) v z := by
      rw [hz]
      exact (hF1.wide fun c k hc => by omega).wI 102 _ _ (by omega)
    have hMz : MT z d n (tkN d n p) := hM1.mono fun c k hc => by rw [hz, gI_ne (by omega)]
    have z18 : gI z 98 18 = gI v 98 18 ∧ gI z 98 19 = gI v 98 19 := by
      rw [hz, gI_ne (by omega), gI_ne (by omega), hF1.1 98 18 (by omega), hF1.1 98 19 (by omega)]
      exact ⟨rfl, rfl⟩
    have z102 : vI z 102 a = tkW 5 d n p := by rw [hz, vI_eq (by omega), if_pos rfl]
    by_cases g45 : tkW 5 d n p = 4 ∨ tkW 5 d n p = 5
    · obtain ⟨y3, w3, e3, hF3, hd3⟩ := number_s z d n (tkN d n p) hMz 1 30 (by omega) (by omega)
      have run : fX13_readAct_37 (Zi a) (Zi (tkW 5 d n p)) v = fX13_readAct_61 (Zi a) z := by
        rcases g45 with g | g
        · rw [g] at hz ⊢
          simp (disch := omega) only [fX13_readAct_37, e1, qbI_s, qbL_s, qbV_s, qbR_s, qbR_n, qbN_s, qbN_n, qbIX_s, qbIX_n, qbVX_s, qbVX_n, cond_true, cond_false, cond_dec, jadd, jsub, jmul, jneg, li_0, li_1, li_2, li_3, li_4, li_5, li_6, li_7, li_8, li_9, li_10, li_14, li_15, li_16, li_19, li_20, li_24, li_30, li_31, li_32, li_39, li_40, li_48, li_57, li_59, li_60, li_63, li_65, li_80, li_81, li_90, li_97, li_99, li_100, li_122, li_126, li_127, li_150, li_160, li_200, li_225, li_255, li_400, li_799, li_800, li_999, li_2400, li_3239, li_3240, li_1048575, li_1431655765, li_858993459, li_252645135, eqb_j, ltb_j, leb_j, inb_j, ix_j, ix_n, nz_b, nz_0, nz_1, eqb_b, bnot, vI_ne, vI_eq, gIL, gLI, gIR, gRI, gLR, gRL, Int.reduceLT, Int.reduceLE, Int.reduceEq, Int.reduceAdd, Int.reduceSub, Int.reduceMul, Int.reduceNeg, Int.reduceToNat, Nat.reduceEqDiff, reduceIte, if_neg, if_pos, gI_ne, ← hz, show (-1 : Int32) = Zi (-1) from rfl]
        · rw [g] at hz ⊢
          simp (disch := omega) only [fX13_readAct_37, e1, qbI_s, qbL_s, qbV_s, qbR_s, qbR_n, qbN_s, qbN_n, qbIX_s, qbIX_n, qbVX_s, qbVX_n, cond_true, cond_false, cond_dec, jadd, jsub, jmul, jneg, li_0, li_1, li_2, li_3, li_4, li_5, li_6, li_7, li_8, li_9, li_10, li_14, li_15, li_16, li_19, li_20, li_24, li_30, li_31, li_32, li_39, li_40, li_48, li_57, li_59, li_60, li_63, li_65, li_80, li_81, li_90, li_97, li_99, li_100, li_122, li_126, li_127, li_150, li_160, li_200, li_225, li_255, li_400, li_799, li_800, li_999, li_2400, li_3239, li_3240, li_1048575, li_1431655765, li_858993459, li_252645135, eqb_j, ltb_j, leb_j, inb_j, ix_j, ix_n, nz_b, nz_0, nz_1, eqb_b, bnot, vI_ne, vI_eq, gIL, gLI, gIR, gRI, gLR, gRL, Int.reduceLT, Int.reduceLE, Int.reduceEq, Int.reduceAdd, Int.reduceSub, Int.reduceMul, Int.reduceNeg, Int.reduceToNat, Nat.reduceEqDiff, reduceIte, if_neg, if_pos, gI_ne, ← hz, show (-1 : Int32) = Zi (-1) from rfl]
      rw [run]
      rcases hd3 with ⟨k1, k2, k3, k4, k5, k6⟩ | ⟨k1, k2, k3, k4, k5⟩ | ⟨k1, k3, k4, k5⟩
      · change 1 ≤ tkV d n (tkN d n p) ∧ tkV d n (tkN d n p) ≤ 30 at k2
        change y3 = some (Zi (tkV d n (tkN d n p))) at k3
        subst k3
        have eQ : acQ d n p = tkN d n (tkN d n p) := by rw [acQ, if_pos g45]
        have eV : acV d n p = tkV d n (tkN d n p) := by rw [acV, if_pos g45]
        refine wp_e (x := some ()) (m := sI w3 103 a (Zi (tkV d n (tkN d n p)))) ?_ ⟨(Fz.tr (hF3.wide fun c k hc => by omega)).wI 103 _ _ (by omega), Or.inl ⟨by rw [acF, if_neg (by omega), if_neg (fun h => h.2 k1), if_neg (fun h => h.2 k2)], rfl, by omega, fun _ => by omega, by omega, ?_, ?_, by rw [eQ]; exact k4.mono fun c k hc => by rw [gI_ne (by omega)], ?_, ?_⟩⟩
        · simp (disch := omega) only [fX13_readAct_61, fX13_readAct_67, e3, qbI_s, qbL_s, qbV_s, qbR_s, qbR_n, qbN_s, qbN_n, qbIX_s, qbIX_n, qbVX_s, qbVX_n, cond_true, cond_false, cond_dec, jadd, jsub, jmul, jneg, li_0, li_1, li_2, li_3, li_4, li_5, li_6, li_7, li_8, li_9, li_10, li_14, li_15, li_16, li_19, li_20, li_24, li_30, li_31, li_32, li_39, li_40, li_48, li_57, li_59, li_60, li_63, li_65, li_80, li_81, li_90, li_97, li_99, li_100, li_122, li_126, li_127, li_150, li_160, li_200, li_225, li_255, li_400, li_799, li_800, li_999, li_2400, li_3239, li_3240, li_1048575, li_1431655765, li_858993459, li_252645135, eqb_j, ltb_j, leb_j, inb_j, ix_j, ix_n, nz_b, nz_0, nz_1, eqb_b, bnot, vI_ne, vI_eq, gIL, gLI, gIR, gRI, gLR, gRL, Int.reduceLT, Int.reduceLE, Int.reduceEq, Int.reduceAdd, Int.reduceSub, Int.reduceMul, Int.reduceNeg, Int.reduceToNat, Nat.reduceEqDiff, reduceIte, if_neg, if_pos, gI_ne]
        · rw [vI_ne (by omega), hF3.v 102 a (by omega), z102]
        · rw [vI_eq (by omega), if_pos rfl, eV]
        · rw [gI_ne (by omega), k5]; exact z18.1
        · rw [gI_ne (by omega), k6]; exact z18.2
      · subst k3
        refine wp_e (x := none) (m := w3) ?_ ⟨Fz.tr (hF3.wide fun c k hc => by omega), Or.inr ⟨2, _, by rw [acF, if_neg (by omega), if_neg (fun h => h.2 k1), if_pos ⟨g45, k2⟩], rfl, k4, k5⟩⟩
        simp (disch := omega) only [fX13_readAct_61, fX13_readAct_67, e3, qbI_s, qbL_s, qbV_s, qbR_s, qbR_n, qbN_s, qbN_n, qbIX_s, qbIX_n, qbVX_s, qbVX_n, cond_true, cond_false, cond_dec, jadd, jsub, jmul, jneg, li_0, li_1, li_2, li_3, li_4, li_5, li_6, li_7, li_8, li_9, li_10, li_14, li_15, li_16, li_19, li_20, li_24, li_30, li_31, li_32, li_39, li_40, li_48, li_57, li_59, li_60, li_63, li_65, li_80, li_81, li_90, li_97, li_99, li_100, li_122, li_126, li_127, li_150, li_160, li_200, li_225, li_255, li_400, li_799, li_800, li_999, li_2400, li_3239, li_3240, li_1048575, li_1431655765, li_858993459, li_252645135, eqb_j, ltb_j, leb_j, inb_j, ix_j, ix_n, nz_b, nz_0, nz_1, eqb_b, bnot, vI_ne, vI_eq, gIL, gLI, gIR, gRI, gLR, gRL, Int.reduceLT, Int.reduceLE, Int.reduceEq, Int.reduceAdd, Int.reduceSub, Int.reduceMul, Int.reduceNeg, Int.reduceToNat, Nat.reduceEqDiff, reduceIte, if_neg, if_pos, gI_ne]
      · subst k3
        refine wp_e (x := none) (m := w3) ?_ ⟨Fz.tr (hF3.wide fun c k hc => by omega), Or.inr ⟨1, _, by rw [acF, if_neg (by omega), if_pos ⟨g45, k1⟩], rfl, k4, k5⟩⟩
        simp (disch := omega) only [fX13_readAct_61, fX13_readAct_67, e3, qbI_s, qbL_s, qbV_s, qbR_s, qbR_n, qbN_s, qbN_n, qbIX_s, qbIX_n, qbVX_s, qbVX_n, cond_true, cond_false, cond_dec, jadd, jsub, jmul, jneg, li_0, li_1, li_2, li_3, li_4, li_5, li_6, li_7, li_8, li_9, li_10, li_14, li_15, li_16, li_19, li_20, li_24, li_30, li_31, li_32, li_39, li_40, li_48, li_57, li_59, li_60, li_63, li_65, li_80, li_81, li_90, li_97, li_99, li_100, li_122, li_126, li_127, li_150, li_160, li_200, li_225, li_255, li_400, li_799, li_800, li_999, li_2400, li_3239, li_3240, li_1048575, li_1431655765, li_858993459, li_252645135, eqb_j, ltb_j, leb_j, inb_j, ix_j, ix_n, nz_b, nz_0, nz_1, eqb_b, bnot, vI_ne, vI_eq, gIL, gLI, gIR, gRI, gLR, gRL, Int.reduceLT, Int.reduceLE, Int.reduceEq, Int.reduceAdd, Int.reduceSub, Int.reduceMul, Int.reduceNeg, Int.reduceToNat, Nat.reduceEqDiff, reduceIte, if_neg, if_pos, gI_ne]
    · have eQ : acQ d n p = tkN d n p := by rw [acQ, if_neg g45]
      have eV : acV d n p = 0 := by rw [acV, if_neg g45]
      refine wp_e (x := some ()) (m := sI z 103 a (Zi 0)) ?_ ⟨Fz.wI 103 _ _ (by omega), Or.inl ⟨by rw [acF, if_neg (by omega), if_neg (fun h => g45 h.1), if_neg (fun h => g45 h.1)], rfl, by omega, fun h => absurd h g45, by omega, ?_, ?_, by rw [eQ]; exact hMz.mono fun c k hc => by rw [gI_ne (by omega)], ?_, ?_⟩⟩
      · simp (disch := omega) only [fX13_readAct_37, fX13_readAct_67, e1, qbI_s, qbL_s, qbV_s, qbR_s, qbR_n, qbN_s, qbN_n, qbIX_s, qbIX_n, qbVX_s, qbVX_n, cond_true, cond_false, cond_dec, jadd, jsub, jmul, jneg, li_0, li_1, li_2, li_3, li_4, li_5, li_6, li_7, li_8, li_9, li_10, li_14, li_15, li_16, li_19, li_20, li_24, li_30, li_31, li_32, li_39, li_40, li_48, li_57, li_59, li_60, li_63, li_65, li_80, li_81, li_90, li_97, li_99, li_100, li_122, li_126, li_127, li_150, li_160, li_200, li_225, li_255, li_400, li_799, li_800, li_999, li_2400, li_3239, li_3240, li_1048575, li_1431655765, li_858993459, li_252645135, eqb_j, ltb_j, leb_j, inb_j, ix_j, ix_n, nz_b, nz_0, nz_1, eqb_b, bnot, vI_ne, vI_eq, gIL, gLI, gIR, gRI, gLR, gRL, Int.reduceLT, Int.reduceLE, Int.reduceEq, Int.reduceAdd, Int.reduceSub, Int.reduceMul, Int.reduceNeg, Int.reduceToNat, Nat.reduceEqDiff, reduceIte, if_neg, if_pos, gI_ne, ← hz, show (-1 : Int32) = Zi (-1) from rfl]
      · rw [vI_ne (by omega), z102]
      · rw [vI_eq (by omega), if_pos rfl, eV]
      · rw [gI_ne (by omega)]; exact z18.1
      · rw [gI_ne (by omega)]; exact z18.2
