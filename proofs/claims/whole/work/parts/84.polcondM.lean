/-! a policy's condition: the reference's -/
theorem cmpV_r (z : Int) : -1 ≤ cmpV z ∧ cmpV z ≤ 1 := by
  unfold cmpV
  split
  · omega
  · split <;> omega
theorem readCond_s (v : qM) (d : Nat → Int) (n p : Nat) (hM : MT v d n p) (a cc : Nat) (ha : 32 ≤ a ∧ a < 40) (hcc : vI v 104 a = cc) (h4 : cc < 4) : wp (fX13_readCond (Zi a) v) (fun y v' => Fr (fun c k => c = 98 ∧ 14 ≤ k ∧ k ≤ 19 ∨ (c = 105 ∨ c = 106 ∨ c = 107) ∧ k = 4 * a + cc ∨ c = 104 ∧ k = a) v v' ∧ ((cdOk d n p ∧ y = some () ∧ vI v' 105 (4 * a + cc) = tkW 2 d n p ∧ vI v' 106 (4 * a + cc) = cmpV (tkW 3 d n (tkN d n p)) ∧ vI v' 107 (4 * a + cc) = tkV d n (tkN d n (tkN d n p)) ∧ vI v' 104 a = (cc : Int) + 1 ∧ MT v' d n (tkN d n (tkN d n (tkN d n p))) ∧ gI v' 98 18 = gI v 98 18 ∧ gI v' 98 19 = gI v 98 19) ∨ (¬ cdOk d n p ∧ y = none ∧ vI v' 98 18 = 1 ∧ vI v' 98 19 = cdFp d n p))) := by
  have hM' := hM
  obtain ⟨hT, hp, h14, h15, h16, h17⟩ := hM'
  have hn := hT.2.1
  have b0 := tF_r d n p hp
  have b1 := tkN_r d n p hp
  have b2 := tkN_r d n (tkN d n p) b1.2
  have b3 := tkN_r d n (tkN d n (tkN d n p)) b2.2
  have i1 : (4 * (a : Int) + cc).toNat = 4 * a + cc := by omega
  have q1 : -1 ≤ tkW 2 d n p ∧ tkW 2 d n p ≤ 5 := ⟨(woV_r 2 (by decide) d (tF d n p) (tU d n (tF d n p)) (tK d n (tF d n p))).1, woV2_r d _ _ _⟩
  have q2 : -1 ≤ tkW 3 d n (tkN d n p) ∧ tkW 3 d n (tkN d n p) ≤ 2 := ⟨(woV_r 3 (by decide) d (tF d n (tkN d n p)) (tU d n (tF d n (tkN d n p))) (tK d n (tF d n (tkN d n p)))).1, woV3_r d _ _ _⟩
  have hc : fX13_readCond (Zi a) v = fX13_readCond_37 (Zi a) (Zi (tkW 2 d n p)) v := cond_M (Zi a) v d n hT _ _ _ h14 h15 h16 (tU_r d n (tF d n p) b0.2) (tK_r d n _) (fun h => tok_word h)
  rw [hc]
  by_cases gA : tkW 2 d n p = -1
  · refine wp_e (x := none) (m := sI (sI v 98 18 (Zi 1)) 98 19 (gI v 98 14)) ?_ ⟨((Fr.rf v).wI 98 18 _ (by omega)).wI 98 19 _ (by omega), Or.inr ⟨fun h => h.1 gA, rfl, ?_, ?_⟩⟩
    · simp (disch := omega) only [fX13_readCond_37, gA, qbI_s, qbL_s, qbV_s, qbR_s, qbR_n, qbN_s, qbN_n, qbIX_s, qbIX_n, qbVX_s, qbVX_n, cond_true, cond_false, cond_dec, jadd, jsub, jmul, jneg, li_0, li_1, li_2, li_3, li_4, li_5, li_6, li_7, li_8, li_9, li_10, li_14, li_15, li_16, li_19, li_20, li_24, li_30, li_31, li_32, li_39, li_40, li_48, li_57, li_59, li_60, li_63, li_65, li_80, li_81, li_90, li_97, li_99, li_100, li_122, li_126, li_127, li_150, li_160, li_200, li_225, li_255, li_400, li_799, li_800, li_999, li_2400, li_3239, li_3240, li_1048575, li_1431655765, li_858993459, li_252645135, eqb_j, ltb_j, leb_j, inb_j, ix_j, ix_n, nz_b, nz_0, nz_1, eqb_b, bnot, vI_ne, vI_eq, gIL, gLI, gIR, gRI, gLR, gRL, Int.reduceLT, Int.reduceLE, Int.reduceEq, Int.reduceAdd, Int.reduceSub, Int.reduceMul, Int.reduceNeg, Int.reduceToNat, Nat.reduceEqDiff, reduceIte, if_neg, if_pos, gI_ne, show (-1 : Int32) = Zi (-1) from rfl, wrong_s, show Nat.beq 109 109 = true from rfl]
    · rw [vI_nk (by omega), vI_eq (by omega), if_pos rfl]
    · rw [gIv 98, h14, vI_eq (by omega), if_pos rfl, cdFp, if_pos gA]
  · obtain ⟨x1, w1, e1, hM1, hF1⟩ := MT.of (p := tkN d n p) hT h15 b1.2
    have c0 := tF_r d n (tkN d n p) b1.2
    have hk := cmp_M (Zi a) 0 w1 d n hM1.1 _ _ _ hM1.2.2.1 hM1.2.2.2.1 hM1.2.2.2.2.1 (tU_r d n _ c0.2) (tK_r d n _) (fun h => tok_word h) (tkW 2 d n p) (by omega) v e1
    change fX13_readCond_37 (Zi a) (Zi (tkW 2 d n p)) v = if tkW 3 d n (tkN d n p) = -1 then _ else fX13_readCond_76 (Zi a) (Zi (tkW 2 d n p)) (Zi (cmpV (tkW 3 d n (tkN d n p)))) w1 at hk
    by_cases gB : tkW 3 d n (tkN d n p) = -1
    · rw [if_pos gB] at hk
      refine wp_e (x := none) (m := sI (sI w1 98 18 (Zi 1)) 98 19 (gI w1 98 14)) hk ⟨((hF1.wide fun c k hc => by omega).wI 98 18 _ (by omega)).wI 98 19 _ (by omega), Or.inr ⟨fun h => h.2.1 gB, rfl, ?_, ?_⟩⟩
      · rw [vI_nk (by omega), vI_eq (by omega), if_pos rfl]
      · rw [gIv 98, hM1.2.2.1, vI_eq (by omega), if_pos rfl, cdFp, if_neg gA, if_pos gB]
    · rw [if_neg gB] at hk
      rw [hk]
      have cr := cmpV_r (tkW 3 d n (tkN d n p))
      generalize hC : cmpV (tkW 3 d n (tkN d n p)) = C at *
      obtain ⟨x2, w2, e2, hM2, hF2⟩ := MT.of (p := tkN d n (tkN d n p)) hM1.1 hM1.2.2.2.1 b2.2
      have v104 : vI w2 104 a = cc := by rw [hF2.v 104 a (by omega), hF1.v 104 a (by omega)]; exact hcc
      obtain ⟨z, hz⟩ : ∃ z : qM, z = sI (sI w2 105 (4 * a + cc) (Zi (tkW 2 d n p))) 106 (4 * a + cc) (Zi C) := ⟨_, rfl⟩
      have Fz : Fr (fun c k => c = 98 ∧ 14 ≤ k ∧ k ≤ 19 ∨ (c = 105 ∨ c = 106 ∨ c = 107) ∧ k = 4 * a + cc ∨ c = 104 ∧ k = a) v z := by
        rw [hz]
        exact (((hF1.wide fun c k hc => by omega).tr (hF2.wide fun c k hc => by omega)).wI 105 _ _ (by omega)).wI 106 _ _ (by omega)
      obtain ⟨y3, w3, e3, hF3, hd3⟩ := number_s z d n (tkN d n (tkN d n p)) (hM2.mono fun c k hc => by rw [hz, gI_ne (by omega), gI_ne (by omega)]) 0 999 (by omega) (by omega)
      have w104 : vI w3 104 a = cc := by rw [hF3.v 104 a (by omega), hz, vI_ne (by omega), vI_ne (by omega)]; exact v104
      have z18 : gI z 98 18 = gI v 98 18 ∧ gI z 98 19 = gI v 98 19 := by
        rw [hz, gI_ne (by omega), gI_ne (by omega), gI_ne (by omega), gI_ne (by omega), hF2.1 98 18 (by omega), hF2.1 98 19 (by omega), hF1.1 98 18 (by omega), hF1.1 98 19 (by omega)]
        exact ⟨rfl, rfl⟩
      rcases hd3 with ⟨k1, k2, k3, k4, k5, k6⟩ | ⟨k1, k2, k3⟩ | ⟨k1, k3, k4, k5⟩
      · have nr := nV_cast k1
        change y3 = some (Zi (tkV d n (tkN d n (tkN d n p)))) at k3
        change 0 ≤ tkV d n (tkN d n (tkN d n p)) ∧ tkV d n (tkN d n (tkN d n p)) ≤ 999 at nr
        subst k3
        refine wp_e (x := some ()) (m := sI (sI w3 107 (4 * a + cc) (Zi (tkV d n (tkN d n (tkN d n p))))) 104 a (Zi ((cc : Int) + 1))) ?_ ⟨((Fz.tr (hF3.wide fun c k hc => by omega)).wI 107 _ _ (by omega)).wI 104 _ _ (by omega), Or.inl ⟨⟨gA, gB, k1⟩, rfl, ?_, ?_, ?_, ?_, k4.mono fun c k hc => by rw [gI_ne (by omega), gI_ne (by omega)], ?_, ?_⟩⟩
        · have u104 : vI (sI w3 107 (4 * a + cc) (Zi (tkV d n (tkN d n (tkN d n p))))) 104 a = cc := by rw [vI_ne (by omega)]; exact w104
          simp (disch := omega) only [fX13_readCond_76, e2, gIv 104, v104, qbI_s, qbL_s, qbV_s, qbR_s, qbR_n, qbN_s, qbN_n, qbIX_s, qbIX_n, qbVX_s, qbVX_n, cond_true, cond_false, cond_dec, jadd, jsub, jmul, jneg, li_0, li_1, li_2, li_3, li_4, li_5, li_6, li_7, li_8, li_9, li_10, li_14, li_15, li_16, li_19, li_20, li_24, li_30, li_31, li_32, li_39, li_40, li_48, li_57, li_59, li_60, li_63, li_65, li_80, li_81, li_90, li_97, li_99, li_100, li_122, li_126, li_127, li_150, li_160, li_200, li_225, li_255, li_400, li_799, li_800, li_999, li_2400, li_3239, li_3240, li_1048575, li_1431655765, li_858993459, li_252645135, eqb_j, ltb_j, leb_j, inb_j, ix_j, ix_n, nz_b, nz_0, nz_1, eqb_b, bnot, vI_ne, vI_eq, gIL, gLI, gIR, gRI, gLR, gRL, Int.reduceLT, Int.reduceLE, Int.reduceEq, Int.reduceAdd, Int.reduceSub, Int.reduceMul, Int.reduceNeg, Int.reduceToNat, Nat.reduceEqDiff, reduceIte, if_neg, if_pos, gI_ne, i1, ← hz, e3, w104]
        · rw [vI_ne (by omega), vI_ne (by omega), hF3.v 105 _ (by omega), hz, vI_ne (by omega), vI_eq (by omega), if_pos rfl]
        · rw [vI_ne (by omega), vI_ne (by omega), hF3.v 106 _ (by omega), hz, vI_eq (by omega), if_pos rfl]
        · rw [vI_ne (by omega), vI_eq (by omega), if_pos rfl]
        · rw [vI_eq (by omega), if_pos rfl]
        · rw [gI_ne (by omega), gI_ne (by omega), k5]; exact z18.1
        · rw [gI_ne (by omega), gI_ne (by omega), k6]; exact z18.2
      · have nr := nV_cast k1
        exact absurd ⟨nr.1, nr.2⟩ k2
      · subst k3
        refine wp_e (x := none) (m := w3) ?_ ⟨Fz.tr (hF3.wide fun c k hc => by omega), Or.inr ⟨fun h => k1 h.2.2, rfl, k4, ?_⟩⟩
        · simp (disch := omega) only [fX13_readCond_76, e2, gIv 104, v104, qbI_s, qbL_s, qbV_s, qbR_s, qbR_n, qbN_s, qbN_n, qbIX_s, qbIX_n, qbVX_s, qbVX_n, cond_true, cond_false, cond_dec, jadd, jsub, jmul, jneg, li_0, li_1, li_2, li_3, li_4, li_5, li_6, li_7, li_8, li_9, li_10, li_14, li_15, li_16, li_19, li_20, li_24, li_30, li_31, li_32, li_39, li_40, li_48, li_57, li_59, li_60, li_63, li_65, li_80, li_81, li_90, li_97, li_99, li_100, li_122, li_126, li_127, li_150, li_160, li_200, li_225, li_255, li_400, li_799, li_800, li_999, li_2400, li_3239, li_3240, li_1048575, li_1431655765, li_858993459, li_252645135, eqb_j, ltb_j, leb_j, inb_j, ix_j, ix_n, nz_b, nz_0, nz_1, eqb_b, bnot, vI_ne, vI_eq, gIL, gLI, gIR, gRI, gLR, gRL, Int.reduceLT, Int.reduceLE, Int.reduceEq, Int.reduceAdd, Int.reduceSub, Int.reduceMul, Int.reduceNeg, Int.reduceToNat, Nat.reduceEqDiff, reduceIte, if_neg, if_pos, gI_ne, i1, ← hz, e3]
        · rw [k5, cdFp, if_neg gA, if_neg gB]
