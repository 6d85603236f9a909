/-! a policy's act: the class's -/
noncomputable def acQ (d : Nat → Int) (n p : Nat) : Nat := if tkW 5 d n p = 4 ∨ tkW 5 d n p = 5 then tkN d n (tkN d n p) else tkN d n p
noncomputable def acV (d : Nat → Int) (n p : Nat) : Int := if tkW 5 d n p = 4 ∨ tkW 5 d n p = 5 then tkV d n (tkN d n p) else 0
noncomputable def acF (d : Nat → Int) (n p : Nat) : Option (Int × Nat) := if tkW 5 d n p = -1 then some (1, tF d n p) else if (tkW 5 d n p = 4 ∨ tkW 5 d n p = 5) ∧ ¬ tK d n (tF d n (tkN d n p)) = 2 then some (1, tF d n (tkN d n p)) else if (tkW 5 d n p = 4 ∨ tkW 5 d n p = 5) ∧ ¬ (1 ≤ tkV d n (tkN d n p) ∧ tkV d n (tkN d n p) ≤ 30) then some (2, tF d n (tkN d n p)) else if tK d n (tF d n (acQ d n p)) = 3 then none else some (1, tF d n (acQ d n p))
theorem act40_s (w : qM) (d : Nat → Int) (n q : Nat) (hT : TC w d n) (h33 : vI w 3 3 = q) (hq : q ≤ n) (r l : Nat) (hr : 9 ≤ r ∧ r ≤ 40) (hl : l < 8) (hv : 0 ≤ vI w (r + 6) l ∧ vI w (r + 6) l ≤ 999) : wp (fX5_takeAct_40 r (Zi l) w) (fun y w' => Fr (fun c k => c = 3 ∧ 1 ≤ k ∧ k ≤ 5) w w' ∧ ((tK d n (tF d n q) = 3 ∧ y = Zi 1 ∧ vI w' 3 3 = tkN d n q ∧ gI w' 3 4 = gI w 3 4 ∧ gI w' 3 5 = gI w 3 5) ∨ (¬ tK d n (tF d n q) = 3 ∧ y = Zi 0 ∧ vI w' 3 4 = 1 ∧ vI w' 3 5 = tF d n q))) := by
  obtain ⟨y, w1, e1, hF1, hd⟩ := takeSemi_s w d n q hT h33 hq
  rcases hd with ⟨k1, rfl, k3, k4, k5⟩ | ⟨k1, rfl, k4, k5⟩
  · refine wp_e (x := Zi 1) (m := w1) ?_ ⟨hF1, Or.inl ⟨k1, rfl, k3, k4, k5⟩⟩
    simp (disch := omega) only [fX5_takeAct_40, fX5_takeAct_51, fX5_takeAct_52, e1, qbI_s, qbL_s, qbV_s, qbR_s, qbR_n, qbN_s, qbN_n, qbIX_s, qbIX_n, qbVX_s, qbVX_n, cond_true, cond_false, cond_dec, jadd, jsub, jmul, jneg, li_0, li_1, li_2, li_3, li_4, li_5, li_6, li_7, li_8, li_9, li_10, li_14, li_15, li_16, li_19, li_20, li_24, li_30, li_31, li_32, li_39, li_40, li_48, li_57, li_59, li_60, li_63, li_65, li_80, li_81, li_90, li_97, li_99, li_100, li_122, li_126, li_127, li_150, li_160, li_200, li_225, li_255, li_400, li_799, li_800, li_999, li_2400, li_3239, li_3240, li_1048575, li_1431655765, li_858993459, li_252645135, eqb_j, ltb_j, leb_j, inb_j, ix_j, ix_n, nz_b, nz_0, nz_1, eqb_b, bnot, vI_ne, vI_eq, gIL, gLI, gIR, gRI, gLR, gRL, Int.reduceLT, Int.reduceLE, Int.reduceEq, Int.reduceAdd, Int.reduceSub, Int.reduceMul, Int.reduceNeg, Int.reduceToNat, Nat.reduceEqDiff, reduceIte, if_neg, if_pos, gI_ne, gIv (r + 6), show (-1 : Int32) = Zi (-1) from rfl]
  · refine wp_e (x := Zi 0) (m := w1) ?_ ⟨hF1, Or.inr ⟨k1, rfl, k4, k5⟩⟩
    simp (disch := omega) only [fX5_takeAct_40, fX5_takeAct_51, fX5_takeAct_52, e1, qbI_s, qbL_s, qbV_s, qbR_s, qbR_n, qbN_s, qbN_n, qbIX_s, qbIX_n, qbVX_s, qbVX_n, cond_true, cond_false, cond_dec, jadd, jsub, jmul, jneg, li_0, li_1, li_2, li_3, li_4, li_5, li_6, li_7, li_8, li_9, li_10, li_14, li_15, li_16, li_19, li_20, li_24, li_30, li_31, li_32, li_39, li_40, li_48, li_57, li_59, li_60, li_63, li_65, li_80, li_81, li_90, li_97, li_99, li_100, li_122, li_126, li_127, li_150, li_160, li_200, li_225, li_255, li_400, li_799, li_800, li_999, li_2400, li_3239, li_3240, li_1048575, li_1431655765, li_858993459, li_252645135, eqb_j, ltb_j, leb_j, inb_j, ix_j, ix_n, nz_b, nz_0, nz_1, eqb_b, bnot, vI_ne, vI_eq, gIL, gLI, gIR, gRI, gLR, gRL, Int.reduceLT, Int.reduceLE, Int.reduceEq, Int.reduceAdd, Int.reduceSub, Int.reduceMul, Int.reduceNeg, Int.reduceToNat, Nat.reduceEqDiff, reduceIte, if_neg, if_pos, gI_ne, gIv (r + 6), show (-1 : Int32) = Zi (-1) from rfl]
theorem takeAct_s (m : qM) (d : Nat → Int) (n p : Nat) (hT : TC m d n) (h33 : vI m 3 3 = p) (hp : p ≤ n) (r l : Nat) (hr : 9 ≤ r ∧ r ≤ 40) (hl : l < 8) : wp (fX5_takeAct r (Zi l) m) (fun y w' => Fr (fun c k => c = 3 ∧ 1 ≤ k ∧ k ≤ 5 ∨ (c = r + 5 ∨ c = r + 6) ∧ k = l) m w' ∧ ((acF d n p = none ∧ y = Zi 1 ∧ vI w' (r + 5) l = tkW 5 d n p ∧ vI w' (r + 6) l = acV d n p ∧ vI w' 3 3 = tkN d n (acQ d n p) ∧ gI w' 3 4 = gI m 3 4 ∧ gI w' 3 5 = gI m 3 5) ∨ (∃ (fk : Int) (fp : Nat), acF d n p = some (fk, fp) ∧ y = Zi 0 ∧ vI w' 3 4 = fk ∧ vI w' 3 5 = fp))) := by
  have hn := hT.2.1
  have b1 := tkN_r d n p hp
  have b2 := tkN_r d n (tkN d n p) b1.2
  rw [fX5_takeAct_d]
  obtain ⟨y1, w1, e1, hF1, hy1, hd1⟩ := takeWord_s m d n p hT h33 hp 5 (by decide)
  subst hy1
  have q1 : -1 ≤ tkW 5 d n p ∧ tkW 5 d n p ≤ 41 := woV_r 5 (by decide) d (tF d n p) (tU d n (tF d n p)) (tK d n (tF d n p))
  change fX6_takeWordOf 10105 m = some (Zi (tkW 5 d n p), w1) at e1
  change (0 ≤ tkW 5 d n p ∧ vI w1 3 3 = (tkN d n p : Nat) ∧ _) ∨ (tkW 5 d n p = -1 ∧ _) at hd1
  have F1 : Fr (fun c k => c = 3 ∧ 1 ≤ k ∧ k ≤ 5 ∨ (c = r + 5 ∨ c = r + 6) ∧ k = l) m (sI w1 (r + 5) l (Zi (tkW 5 d n p))) := (hF1.wide fun c k hc => by omega).wI (r + 5) l _ (by omega)
  rcases hd1 with ⟨a0, a1, a2, a3⟩ | ⟨a0, a1, a2⟩
  · obtain ⟨w2, hw2⟩ : ∃ w2 : qM, w2 = sI (sI w1 (r + 5) l (Zi (tkW 5 d n p))) (r + 6) l (Zi 0) := ⟨_, rfl⟩
    have F2 : Fr (fun c k => c = 3 ∧ 1 ≤ k ∧ k ≤ 5 ∨ (c = r + 5 ∨ c = r + 6) ∧ k = l) m w2 := by rw [hw2]; exact F1.wI (r + 6) l _ (by omega)
    have hT2 : TC w2 d n := hT.mono fun c k hc => F2.1 c k (by omega)
    have s5 : vI w2 (r + 5) l = tkW 5 d n p := by rw [hw2, vI_ne (by omega), vI_eq (by omega), if_pos rfl]
    have s6 : vI w2 (r + 6) l = 0 := by rw [hw2, vI_eq (by omega), if_pos rfl]
    have s33 : vI w2 3 3 = (tkN d n p : Nat) := by rw [hw2, vI_ne (by omega), vI_ne (by omega)]; exact a1
    have s34 : gI w2 3 4 = gI m 3 4 ∧ gI w2 3 5 = gI m 3 5 := by
      rw [hw2, gI_ne (by omega), gI_ne (by omega), gI_ne (by omega), gI_ne (by omega)]
      exact ⟨a2, a3⟩
    by_cases g45 : tkW 5 d n p = 4 ∨ tkW 5 d n p = 5
    · obtain ⟨y3, w3, e3, hF3, hd3⟩ := takeNum_s w2 d n (tkN d n p) hT2 s33 b1.2 1 30 (by omega) (by omega)
      have run : fX5_takeAct_0 r (Zi l) m = fX5_takeAct_40 r (Zi l) (sI w3 (r + 6) l y3) := by
        rcases g45 with g | g
        · simp (disch := omega) only [fX5_takeAct_0, fX5_takeAct_32, e1, g, qbI_s, qbL_s, qbV_s, qbR_s, qbR_n, qbN_s, qbN_n, qbIX_s, qbIX_n, qbVX_s, qbVX_n, cond_true, cond_false, cond_dec, jadd, jsub, jmul, jneg, li_0, li_1, li_2, li_3, li_4, li_5, li_6, li_7, li_8, li_9, li_10, li_14, li_15, li_16, li_19, li_20, li_24, li_30, li_31, li_32, li_39, li_40, li_48, li_57, li_59, li_60, li_63, li_65, li_80, li_81, li_90, li_97, li_99, li_100, li_122, li_126, li_127, li_150, li_160, li_200, li_225, li_255, li_400, li_799, li_800, li_999, li_2400, li_3239, li_3240, li_1048575, li_1431655765, li_858993459, li_252645135, eqb_j, ltb_j, leb_j, inb_j, ix_j, ix_n, nz_b, nz_0, nz_1, eqb_b, bnot, vI_ne, vI_eq, gIL, gLI, gIR, gRI, gLR, gRL, Int.reduceLT, Int.reduceLE, Int.reduceEq, Int.reduceAdd, Int.reduceSub, Int.reduceMul, Int.reduceNeg, Int.reduceToNat, Nat.reduceEqDiff, reduceIte, if_neg, if_pos, gI_ne, gI_sI, true_and, show (-1 : Int32) = Zi (-1) from rfl]
          rw [g] at hw2
          simp (disch := omega) only [← hw2, e3, qbI_s, qbL_s, qbV_s, qbR_s, qbR_n, qbN_s, qbN_n, qbIX_s, qbIX_n, qbVX_s, qbVX_n, cond_true, cond_false, cond_dec, jadd, jsub, jmul, jneg, li_0, li_1, li_2, li_3, li_4, li_5, li_6, li_7, li_8, li_9, li_10, li_14, li_15, li_16, li_19, li_20, li_24, li_30, li_31, li_32, li_39, li_40, li_48, li_57, li_59, li_60, li_63, li_65, li_80, li_81, li_90, li_97, li_99, li_100, li_122, li_126, li_127, li_150, li_160, li_200, li_225, li_255, li_400, li_799, li_800, li_999, li_2400, li_3239, li_3240, li_1048575, li_1431655765, li_858993459, li_252645135, eqb_j, ltb_j, leb_j, inb_j, ix_j, ix_n, nz_b, nz_0, nz_1, eqb_b, bnot, vI_ne, vI_eq, gIL, gLI, gIR, gRI, gLR, gRL, Int.reduceLT, Int.reduceLE, Int.reduceEq, Int.reduceAdd, Int.reduceSub, Int.reduceMul, Int.reduceNeg, Int.reduceToNat, Nat.reduceEqDiff, reduceIte, if_neg, if_pos, gI_ne]
        · simp (disch := omega) only [fX5_takeAct_0, fX5_takeAct_32, e1, g, qbI_s, qbL_s, qbV_s, qbR_s, qbR_n, qbN_s, qbN_n, qbIX_s, qbIX_n, qbVX_s, qbVX_n, cond_true, cond_false, cond_dec, jadd, jsub, jmul, jneg, li_0, li_1, li_2, li_3, li_4, li_5, li_6, li_7, li_8, li_9, li_10, li_14, li_15, li_16, li_19, li_20, li_24, li_30, li_31, li_32, li_39, li_40, li_48, li_57, li_59, li_60, li_63, li_65, li_80, li_81, li_90, li_97, li_99, li_100, li_122, li_126, li_127, li_150, li_160, li_200, li_225, li_255, li_400, li_799, li_800, li_999, li_2400, li_3239, li_3240, li_1048575, li_1431655765, li_858993459, li_252645135, eqb_j, ltb_j, leb_j, inb_j, ix_j, ix_n, nz_b, nz_0, nz_1, eqb_b, bnot, vI_ne, vI_eq, gIL, gLI, gIR, gRI, gLR, gRL, Int.reduceLT, Int.reduceLE, Int.reduceEq, Int.reduceAdd, Int.reduceSub, Int.reduceMul, Int.reduceNeg, Int.reduceToNat, Nat.reduceEqDiff, reduceIte, if_neg, if_pos, gI_ne, gI_sI, true_and, show (-1 : Int32) = Zi (-1) from rfl]
          rw [g] at hw2
          simp (disch := omega) only [← hw2, e3, qbI_s, qbL_s, qbV_s, qbR_s, qbR_n, qbN_s, qbN_n, qbIX_s, qbIX_n, qbVX_s, qbVX_n, cond_true, cond_false, cond_dec, jadd, jsub, jmul, jneg, li_0, li_1, li_2, li_3, li_4, li_5, li_6, li_7, li_8, li_9, li_10, li_14, li_15, li_16, li_19, li_20, li_24, li_30, li_31, li_32, li_39, li_40, li_48, li_57, li_59, li_60, li_63, li_65, li_80, li_81, li_90, li_97, li_99, li_100, li_122, li_126, li_127, li_150, li_160, li_200, li_225, li_255, li_400, li_799, li_800, li_999, li_2400, li_3239, li_3240, li_1048575, li_1431655765, li_858993459, li_252645135, eqb_j, ltb_j, leb_j, inb_j, ix_j, ix_n, nz_b, nz_0, nz_1, eqb_b, bnot, vI_ne, vI_eq, gIL, gLI, gIR, gRI, gLR, gRL, Int.reduceLT, Int.reduceLE, Int.reduceEq, Int.reduceAdd, Int.reduceSub, Int.reduceMul, Int.reduceNeg, Int.reduceToNat, Nat.reduceEqDiff, reduceIte, if_neg, if_pos, gI_ne]
      show wp (fX5_takeAct_0 r (Zi l) m) _
      rw [run]
      have F3 : ∀ z : Int32, Fr (fun c k => c = 3 ∧ 1 ≤ k ∧ k ≤ 5 ∨ (c = r + 5 ∨ c = r + 6) ∧ k = l) m (sI w3 (r + 6) l z) := fun z => (F2.tr (hF3.wide fun c k hc => by omega)).wI (r + 6) l _ (by omega)
      have bad : ∀ (fk : Int), y3 = Zi (-1) → vI w3 3 4 = fk → vI w3 3 5 = tF d n (tkN d n p) → acF d n p = some (fk, tF d n (tkN d n p)) → wp (fX5_takeAct_40 r (Zi l) (sI w3 (r + 6) l y3)) (fun y w' => Fr (fun c k => c = 3 ∧ 1 ≤ k ∧ k ≤ 5 ∨ (c = r + 5 ∨ c = r + 6) ∧ k = l) m w' ∧ ((acF d n p = none ∧ y = Zi 1 ∧ vI w' (r + 5) l = tkW 5 d n p ∧ vI w' (r + 6) l = acV d n p ∧ vI w' 3 3 = tkN d n (acQ d n p) ∧ gI w' 3 4 = gI m 3 4 ∧ gI w' 3 5 = gI m 3 5) ∨ (∃ (fk : Int) (fp : Nat), acF d n p = some (fk, fp) ∧ y = Zi 0 ∧ vI w' 3 4 = fk ∧ vI w' 3 5 = fp))) := by
        intro fk hy h4 h5 hf
        subst hy
        refine wp_e (x := Zi 0) (m := sI w3 (r + 6) l (Zi (-1))) ?_ ⟨F3 _, Or.inr ⟨fk, _, hf, rfl, by rw [vI_ne (by omega)]; exact h4, by rw [vI_ne (by omega)]; exact h5⟩⟩
        simp (disch := omega) only [fX5_takeAct_40, fX5_takeAct_51, fX5_takeAct_52, qbI_s, qbL_s, qbV_s, qbR_s, qbR_n, qbN_s, qbN_n, qbIX_s, qbIX_n, qbVX_s, qbVX_n, cond_true, cond_false, cond_dec, jadd, jsub, jmul, jneg, li_0, li_1, li_2, li_3, li_4, li_5, li_6, li_7, li_8, li_9, li_10, li_14, li_15, li_16, li_19, li_20, li_24, li_30, li_31, li_32, li_39, li_40, li_48, li_57, li_59, li_60, li_63, li_65, li_80, li_81, li_90, li_97, li_99, li_100, li_122, li_126, li_127, li_150, li_160, li_200, li_225, li_255, li_400, li_799, li_800, li_999, li_2400, li_3239, li_3240, li_1048575, li_1431655765, li_858993459, li_252645135, eqb_j, ltb_j, leb_j, inb_j, ix_j, ix_n, nz_b, nz_0, nz_1, eqb_b, bnot, vI_ne, vI_eq, gIL, gLI, gIR, gRI, gLR, gRL, Int.reduceLT, Int.reduceLE, Int.reduceEq, Int.reduceAdd, Int.reduceSub, Int.reduceMul, Int.reduceNeg, Int.reduceToNat, Nat.reduceEqDiff, reduceIte, if_neg, if_pos, gI_ne, gI_sI, true_and, show (-1 : Int32) = Zi (-1) from rfl]
      rcases hd3 with ⟨k1, k2, k3, k4, k5, k6⟩ | ⟨k1, k2, k3, k4, k5⟩ | ⟨k1, k3, k4, k5⟩
      · change 1 ≤ tkV d n (tkN d n p) ∧ tkV d n (tkN d n p) ≤ 30 at k2
        change y3 = Zi (tkV d n (tkN d n p)) at k3
        subst k3
        have eQ : acQ d n p = tkN d n (tkN d n p) := by rw [acQ, if_pos g45]
        have eV : acV d n p = tkV d n (tkN d n p) := by rw [acV, if_pos g45]
        have eF : acF d n p = if tK d n (tF d n (acQ d n p)) = 3 then none else some (1, tF d n (acQ d n p)) := by rw [acF, if_neg (by omega), if_neg (fun h => h.2 k1), if_neg (fun h => h.2 k2)]
        obtain ⟨y4, w4, e4, hF4, hd4⟩ := act40_s (sI w3 (r + 6) l (Zi (tkV d n (tkN d n p)))) d n (acQ d n p) (hT.mono fun c k hc => (F3 _).1 c k (by omega)) (by rw [vI_ne (by omega), eQ]; exact k4) (by rw [eQ]; exact b2.2) r l hr hl (by rw [vI_eq (by omega), if_pos rfl]; omega)
        refine ⟨y4, w4, e4, (F3 _).tr (hF4.wide fun c k hc => by omega), ?_⟩
        rcases hd4 with ⟨j1, j2, j3, j4, j5⟩ | ⟨j1, j2, j3, j4⟩
        · refine Or.inl ⟨by rw [eF, if_pos j1], j2, ?_, ?_, j3, ?_, ?_⟩
          · rw [hF4.v (r + 5) l (by omega), vI_ne (by omega), hF3.v (r + 5) l (by omega), s5]
          · rw [hF4.v (r + 6) l (by omega), vI_eq (by omega), if_pos rfl, eV]
          · rw [j4, gI_ne (by omega), k5]; exact s34.1
          · rw [j5, gI_ne (by omega), k6]; exact s34.2
        · exact Or.inr ⟨1, _, by rw [eF, if_neg j1], j2, j3, j4⟩
      · exact bad 2 k3 k4 k5 (by rw [acF, if_neg (by omega), if_neg (fun h => h.2 k1), if_pos ⟨g45, k2⟩])
      · exact bad 1 k3 k4 k5 (by rw [acF, if_neg (by omega), if_pos ⟨g45, k1⟩])
    · have eQ : acQ d n p = tkN d n p := by rw [acQ, if_neg g45]
      have eV : acV d n p = 0 := by rw [acV, if_neg g45]
      have eF : acF d n p = if tK d n (tF d n (acQ d n p)) = 3 then none else some (1, tF d n (acQ d n p)) := by rw [acF, if_neg (by omega), if_neg (fun h => g45 h.1), if_neg (fun h => g45 h.1)]
      obtain ⟨y4, w4, e4, hF4, hd4⟩ := act40_s w2 d n (acQ d n p) hT2 (by rw [eQ]; exact s33) (by rw [eQ]; exact b1.2) r l hr hl (by rw [s6]; omega)
      refine ⟨y4, w4, ?_, F2.tr (hF4.wide fun c k hc => by omega), ?_⟩
      · simp (disch := omega) only [fX5_takeAct_0, e1, qbI_s, qbL_s, qbV_s, qbR_s, qbR_n, qbN_s, qbN_n, qbIX_s, qbIX_n, qbVX_s, qbVX_n, cond_true, cond_false, cond_dec, jadd, jsub, jmul, jneg, li_0, li_1, li_2, li_3, li_4, li_5, li_6, li_7, li_8, li_9, li_10, li_14, li_15, li_16, li_19, li_20, li_24, li_30, li_31, li_32, li_39, li_40, li_48, li_57, li_59, li_60, li_63, li_65, li_80, li_81, li_90, li_97, li_99, li_100, li_122, li_126, li_127, li_150, li_160, li_200, li_225, li_255, li_400, li_799, li_800, li_999, li_2400, li_3239, li_3240, li_1048575, li_1431655765, li_858993459, li_252645135, eqb_j, ltb_j, leb_j, inb_j, ix_j, ix_n, nz_b, nz_0, nz_1, eqb_b, bnot, vI_ne, vI_eq, gIL, gLI, gIR, gRI, gLR, gRL, Int.reduceLT, Int.reduceLE, Int.reduceEq, Int.reduceAdd, Int.reduceSub, Int.reduceMul, Int.reduceNeg, Int.reduceToNat, Nat.reduceEqDiff, reduceIte, if_neg, if_pos, gI_ne, gI_sI, true_and, show (-1 : Int32) = Zi (-1) from rfl, ← hw2]
        exact e4
      · rcases hd4 with ⟨j1, j2, j3, j4, j5⟩ | ⟨j1, j2, j3, j4⟩
        · refine Or.inl ⟨by rw [eF, if_pos j1], j2, ?_, ?_, j3, ?_, ?_⟩
          · rw [hF4.v (r + 5) l (by omega), s5]
          · rw [hF4.v (r + 6) l (by omega), s6, eV]
          · rw [j4]; exact s34.1
          · rw [j5]; exact s34.2
        · exact Or.inr ⟨1, _, by rw [eF, if_neg j1], j2, j3, j4⟩
  · refine wp_e (x := Zi 0) (m := sI w1 (r + 5) l (Zi (-1))) ?_ ⟨by rw [a0] at F1; exact F1, Or.inr ⟨1, _, by rw [acF, if_pos a0], rfl, by rw [vI_ne (by omega)]; exact a1, by rw [vI_ne (by omega)]; exact a2⟩⟩
    simp (disch := omega) only [fX5_takeAct_0, e1, a0, qbI_s, qbL_s, qbV_s, qbR_s, qbR_n, qbN_s, qbN_n, qbIX_s, qbIX_n, qbVX_s, qbVX_n, cond_true, cond_false, cond_dec, jadd, jsub, jmul, jneg, li_0, li_1, li_2, li_3, li_4, li_5, li_6, li_7, li_8, li_9, li_10, li_14, li_15, li_16, li_19, li_20, li_24, li_30, li_31, li_32, li_39, li_40, li_48, li_57, li_59, li_60, li_63, li_65, li_80, li_81, li_90, li_97, li_99, li_100, li_122, li_126, li_127, li_150, li_160, li_200, li_225, li_255, li_400, li_799, li_800, li_999, li_2400, li_3239, li_3240, li_1048575, li_1431655765, li_858993459, li_252645135, eqb_j, ltb_j, leb_j, inb_j, ix_j, ix_n, nz_b, nz_0, nz_1, eqb_b, bnot, vI_ne, vI_eq, gIL, gLI, gIR, gRI, gLR, gRL, Int.reduceLT, Int.reduceLE, Int.reduceEq, Int.reduceAdd, Int.reduceSub, Int.reduceMul, Int.reduceNeg, Int.reduceToNat, Nat.reduceEqDiff, reduceIte, if_neg, if_pos, gI_ne, gI_sI, true_and, show (-1 : Int32) = Zi (-1) from rfl]
