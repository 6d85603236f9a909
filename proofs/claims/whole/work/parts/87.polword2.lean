/-! a word taken, with the place where it begins -/
theorem takeWord_s2 (m : qM) (d : Nat → Int) (n p : Nat) (hT : TC m d n) (h33 : vI m 3 3 = p) (hp : p ≤ n) (T : Nat) (hj : T < 27) : wp (fX6_takeWordOf (10100 + T) m) (fun y v' => Fr (fun c k => c = 3 ∧ 1 ≤ k ∧ k ≤ 5) m v' ∧ y = Zi (tkW T d n p) ∧ vI v' 3 2 = tF d n p ∧ ((0 ≤ tkW T d n p ∧ vI v' 3 3 = tkN d n p ∧ gI v' 3 4 = gI m 3 4 ∧ gI v' 3 5 = gI m 3 5) ∨ (tkW T d n p = -1 ∧ vI v' 3 4 = 1 ∧ vI v' 3 5 = tF d n p))) := by
  have hn := hT.2.1
  unfold tkW tkN
  obtain ⟨f1, f2⟩ := tF_r d n p hp
  obtain ⟨x, w, e, hF, h2, h3, h1⟩ := step_s m d n hT p h33 hp
  have hTw : TC w d n := hT.mono fun c k hc => hF.1 c k (by omega)
  generalize tF d n p = f at *
  obtain ⟨u1, u2⟩ := tU_r d n f f2
  have kr := tK_r d n f
  have hw : fX6_wordOf (10100 + T) w = some (Zi (woV T d f (tU d n f) (tK d n f)), w) := wordOf_s w d n hTw f (tU d n f) _ h1 h2 h3 ⟨u1, u2⟩ kr T hj
  have wr := woV_r T hj d f (tU d n f) (tK d n f)
  generalize woV T d f (tU d n f) (tK d n f) = z at *
  rw [fX6_takeWordOf_d]
  by_cases g : z = -1
  · refine wp_e (x := Zi (-1)) (m := sI (sI w 3 4 (Zi 1)) 3 5 (gI w 3 2)) ?_ ⟨((hF.wide fun c k hc => by omega).wI 3 4 _ (by omega)).wI 3 5 _ (by omega), by rw [g], by rw [vI_nk (by omega), vI_nk (by omega), h2], Or.inr ⟨g, ?_, ?_⟩⟩
    · simp (disch := omega) only [fX6_takeWordOf_0, fX6_takeWordOf_14, qbI_s, qbL_s, qbV_s, qbR_s, qbR_n, qbN_s, qbN_n, qbIX_s, qbIX_n, qbVX_s, qbVX_n, cond_true, cond_false, cond_dec, jadd, jsub, jmul, jneg, li_0, li_1, li_2, li_3, li_4, li_5, li_6, li_7, li_8, li_9, li_10, li_14, li_15, li_16, li_19, li_20, li_24, li_30, li_31, li_32, li_39, li_40, li_48, li_57, li_59, li_60, li_63, li_65, li_80, li_81, li_90, li_97, li_99, li_100, li_122, li_126, li_127, li_150, li_160, li_200, li_225, li_255, li_400, li_799, li_800, li_999, li_2400, li_3239, li_3240, li_1048575, li_1431655765, li_858993459, li_252645135, eqb_j, ltb_j, leb_j, inb_j, ix_j, ix_n, nz_b, nz_0, nz_1, eqb_b, bnot, vI_ne, vI_eq, gIL, gLI, gIR, gRI, gLR, gRL, Int.reduceLT, Int.reduceLE, Int.reduceEq, Int.reduceAdd, Int.reduceSub, Int.reduceMul, Int.reduceNeg, Int.reduceToNat, Nat.reduceEqDiff, reduceIte, if_neg, if_pos, gI_ne, e, hw, g, show (-1 : Int32) = Zi (-1) from rfl, fail_s]
    · rw [vI_nk (by omega), vI_eq (by omega), if_pos rfl]
    · rw [gIv 3, h2, vI_eq (by omega), if_pos rfl]
  · refine wp_e (x := Zi z) (m := w) ?_ ⟨hF.wide fun c k hc => by omega, rfl, h2, Or.inl ⟨by omega, h3, hF.1 3 4 (by omega), hF.1 3 5 (by omega)⟩⟩
    simp (disch := omega) only [fX6_takeWordOf_0, fX6_takeWordOf_14, qbI_s, qbL_s, qbV_s, qbR_s, qbR_n, qbN_s, qbN_n, qbIX_s, qbIX_n, qbVX_s, qbVX_n, cond_true, cond_false, cond_dec, jadd, jsub, jmul, jneg, li_0, li_1, li_2, li_3, li_4, li_5, li_6, li_7, li_8, li_9, li_10, li_14, li_15, li_16, li_19, li_20, li_24, li_30, li_31, li_32, li_39, li_40, li_48, li_57, li_59, li_60, li_63, li_65, li_80, li_81, li_90, li_97, li_99, li_100, li_122, li_126, li_127, li_150, li_160, li_200, li_225, li_255, li_400, li_799, li_800, li_999, li_2400, li_3239, li_3240, li_1048575, li_1431655765, li_858993459, li_252645135, eqb_j, ltb_j, leb_j, inb_j, ix_j, ix_n, nz_b, nz_0, nz_1, eqb_b, bnot, vI_ne, vI_eq, gIL, gLI, gIR, gRI, gLR, gRL, Int.reduceLT, Int.reduceLE, Int.reduceEq, Int.reduceAdd, Int.reduceSub, Int.reduceMul, Int.reduceNeg, Int.reduceToNat, Nat.reduceEqDiff, reduceIte, if_neg, if_pos, gI_ne, e, hw, show (-1 : Int32) = Zi (-1) from rfl]
/-- 'and' and 'do', seen by the reference -/
theorem andDo_M (v : qM) (d : Nat → Int) (n p : Nat) (hM : MT v d n p) : fX13_is 10119 v = some (Zi (bI (decide (tkW 4 d n p = 1))), v) ∧ (¬ tkW 4 d n p = 1 → fX13_is 10120 v = some (Zi (bI (decide (tkW 4 d n p = 0))), v)) := by
  obtain ⟨hT, hp, h14, h15, h16, h17⟩ := hM
  have b0 := tF_r d n p hp
  have hi := is_s v d n hT _ _ _ h14 h15 h16 (tU_r d n (tF d n p) b0.2) (tK_r d n _) (fun h => tok_word h)
  have i19 : fX13_is 10119 v = _ := hi 19 (by decide)
  have i20 : fX13_is 10120 v = _ := hi 20 (by decide)
  rw [i19, i20]
  have hd : wdB d (tF d n p) (tU d n (tF d n p)) 20 = true → wdB d (tF d n p) (tU d n (tF d n p)) 19 = true → False := fun h1 h2 => by
    unfold wdB at h1 h2
    rw [Bool.and_eq_true, decide_eq_true_eq] at h1 h2
    have := h1.1.symm.trans h2.1
    exact absurd this (by decide)
  unfold tkW
  rw [woV_4]
  by_cases g : tK d n (tF d n p) = 1
  · rw [if_pos g, decide_eq_true g, Bool.true_and, Bool.true_and]
    cases c20 : wdB d (tF d n p) (tU d n (tF d n p)) 20
    · cases c19 : wdB d (tF d n p) (tU d n (tF d n p)) 19
      · exact ⟨rfl, fun _ => rfl⟩
      · exact ⟨rfl, fun h => absurd rfl h⟩
    · cases c19 : wdB d (tF d n p) (tU d n (tF d n p)) 19
      · exact ⟨rfl, fun _ => rfl⟩
      · exact (hd c20 c19).elim
  · rw [if_neg g, decide_eq_false g, Bool.false_and, Bool.false_and]
    exact ⟨rfl, fun _ => rfl⟩
