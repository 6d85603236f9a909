/-! settle: the reference, and the operation -/
def MCt (m0 : qM) (d : Dt) (b : Cs) (m : qM) : Prop := (∀ c k, dP c k → vI m c k = d c k) ∧ (∀ k, k < 4 → vI m 127 k = vV b.2.1 k) ∧ vI m 98 47 = b.2.2.1 ∧ (b.2.2.1 ≠ -1 → vI m 98 48 = b.2.2.2.1 ∧ (b.2.2.2.1 = -1 → vI m 98 49 = b.2.2.2.2)) ∧ Fr (fun c k => c = 125 ∨ c = 127 ∨ c = 128 ∨ c = 98 ∧ 47 ≤ k ∧ k ≤ 49) m0 m
theorem MCt.set {m0 m : qM} {d : Dt} {b : Cs} (h : MCt m0 d b m) (a : Nat) (x : Int) (hx : -1 ≤ x ∧ x ≤ 19) : MCt m0 (upS d a x) b (sI m 125 a (Zi x)) := by
  obtain ⟨h1, h2, h3, h4, h5⟩ := h
  refine ⟨fun c k hc => ?_, fun k hk => by rw [vI_ne (by omega)]; exact h2 k hk, by rw [vI_ne (by omega)]; exact h3, fun z => by rw [vI_ne (by omega), vI_ne (by omega)]; exact h4 z, h5.wI 125 a _ (by omega)⟩
  by_cases e : c = 125
  · rw [e, upS_eq]
    by_cases ek : k = a
    · rw [if_pos ek, ek]
      simp (disch := omega) only [qbI_s, qbL_s, qbV_s, qbR_s, qbR_n, qbN_s, qbN_n, qbIX_s, qbIX_n, qbVX_s, qbVX_n, cond_true, cond_false, cond_dec, jadd, jsub, jmul, jneg, li_0, li_1, li_2, li_3, li_4, li_5, li_6, li_7, li_8, li_9, li_10, li_14, li_15, li_16, li_19, li_20, li_24, li_30, li_31, li_32, li_39, li_40, li_48, li_57, li_59, li_60, li_63, li_65, li_80, li_81, li_90, li_97, li_99, li_100, li_122, li_126, li_127, li_150, li_160, li_200, li_225, li_255, li_400, li_799, li_800, li_999, li_2400, li_3239, li_3240, li_1048575, li_1431655765, li_858993459, li_252645135, eqb_j, ltb_j, leb_j, inb_j, ix_j, ix_n, nz_b, nz_0, nz_1, eqb_b, bnot, vI_ne, vI_eq, gIL, gLI, gIR, gRI, gLR, gRL, Int.reduceLT, Int.reduceLE, Int.reduceEq, Int.reduceAdd, Int.reduceSub, Int.reduceMul, Int.reduceNeg, Int.reduceToNat, Nat.reduceEqDiff, reduceIte, if_neg, if_pos, gI_ne]
    · rw [if_neg ek, vI_of (show gI (sI m 125 a (Zi x)) 125 k = gI m 125 k by rw [gI_eq, if_neg ek])]
      exact h1 125 k (by unfold dP; omega)
  · rw [upS_ne _ _ _ e, vI_ne e]
    exact h1 c k hc
theorem judge_s {m0 m : qM} {e : Dt} {b : Cs} (h : MCt m0 e b m) (hE : DOk e) (hCl : CClash m e) (hb : DOk b.2.1) (hb1 : b.1 = wD b.2.1) (o t x : Int) (ho : 0 ≤ o ∧ o ≤ 40) (ht : -1 ≤ t ∧ t ≤ 40) (hx : -1 ≤ x ∧ x ≤ 40) : wp (fX13_judge (Zi o) (Zi t) (Zi x) m) (fun _ m' => MCt m0 e (stC e o t x b) m') := by
  obtain ⟨h1, h2, h3, h4, h5⟩ := h
  obtain ⟨y, m1, e1, k1, f1⟩ := valNow_s m e hE hCl h1
  have q1 : ∀ c k, ¬ c = 128 → vI m1 c k = vI m c k := fun c k hc => f1.v c k hc
  have im := isMore_s m1 e b.2.1 hE hb k1 (fun k hk => by rw [q1 127 k (by omega)]; exact h2 k hk)
  rw [← hb1] at im
  have M1 : MCt m0 e b m1 := ⟨fun c k hc => by rw [q1 c k (by unfold dP at hc; omega)]; exact h1 c k hc, fun k hk => by rw [q1 127 k (by omega)]; exact h2 k hk, by rw [q1 98 47 (by omega)]; exact h3, fun z => by rw [q1 98 48 (by omega), q1 98 49 (by omega)]; exact h4 z, h5.tr (f1.wide (fun c k hc => by omega))⟩
  rw [fX13_judge_d]
  by_cases c : b.1 < wD e
  · rw [decide_eq_true c] at im
    obtain ⟨z, m2, e2, k2, f2⟩ := keepVal_s m1
    have q2 : ∀ c k, ¬ c = 127 → vI m2 c k = vI m1 c k := fun c k hc => f2.v c k hc
    refine wp_e (x := ()) (m := sI (sI (sI m2 98 47 (Zi o)) 98 48 (Zi t)) 98 49 (Zi x)) ?_ ?_
    · simp (disch := omega) only [fX13_judge_0, qbI_s, qbL_s, qbV_s, qbR_s, qbR_n, qbN_s, qbN_n, qbIX_s, qbIX_n, qbVX_s, qbVX_n, cond_true, cond_false, cond_dec, jadd, jsub, jmul, jneg, li_0, li_1, li_2, li_3, li_4, li_5, li_6, li_7, li_8, li_9, li_10, li_14, li_15, li_16, li_19, li_20, li_24, li_30, li_31, li_32, li_39, li_40, li_48, li_57, li_59, li_60, li_63, li_65, li_80, li_81, li_90, li_97, li_99, li_100, li_122, li_126, li_127, li_150, li_160, li_200, li_225, li_255, li_400, li_799, li_800, li_999, li_2400, li_3239, li_3240, li_1048575, li_1431655765, li_858993459, li_252645135, eqb_j, ltb_j, leb_j, inb_j, ix_j, ix_n, nz_b, nz_0, nz_1, eqb_b, bnot, vI_ne, vI_eq, gIL, gLI, gIR, gRI, gLR, gRL, Int.reduceLT, Int.reduceLE, Int.reduceEq, Int.reduceAdd, Int.reduceSub, Int.reduceMul, Int.reduceNeg, Int.reduceToNat, Nat.reduceEqDiff, reduceIte, if_neg, if_pos, gI_ne, e1, im, show bI true = 1 from rfl, e2]
    · rw [stC, if_pos c]
      refine ⟨fun c k hc => ?_, fun k hk => ?_, ?_, fun _ => ?_, (((M1.2.2.2.2.tr (f2.wide (fun c k hc => by omega))).wI 98 47 _ (by omega)).wI 98 48 _ (by omega)).wI 98 49 _ (by omega)⟩
      · have hc' : c = 98 ∧ k = 32 ∨ c = 99 ∨ 112 ≤ c ∧ c ≤ 126 := hc
        rw [← M1.1 c k hc, ← q2 c k (by omega)]
        exact vI_of (by rw [gI_sI, if_neg (by omega), gI_sI, if_neg (by omega), gI_sI, if_neg (by omega)])
      · rw [vI_ne (by omega), vI_ne (by omega), vI_ne (by omega), k2 k hk]
        exact k1 k hk
      · simp (disch := omega) only [qbI_s, qbL_s, qbV_s, qbR_s, qbR_n, qbN_s, qbN_n, qbIX_s, qbIX_n, qbVX_s, qbVX_n, cond_true, cond_false, cond_dec, jadd, jsub, jmul, jneg, li_0, li_1, li_2, li_3, li_4, li_5, li_6, li_7, li_8, li_9, li_10, li_14, li_15, li_16, li_19, li_20, li_24, li_30, li_31, li_32, li_39, li_40, li_48, li_57, li_59, li_60, li_63, li_65, li_80, li_81, li_90, li_97, li_99, li_100, li_122, li_126, li_127, li_150, li_160, li_200, li_225, li_255, li_400, li_799, li_800, li_999, li_2400, li_3239, li_3240, li_1048575, li_1431655765, li_858993459, li_252645135, eqb_j, ltb_j, leb_j, inb_j, ix_j, ix_n, nz_b, nz_0, nz_1, eqb_b, bnot, vI_ne, vI_eq, gIL, gLI, gIR, gRI, gLR, gRL, Int.reduceLT, Int.reduceLE, Int.reduceEq, Int.reduceAdd, Int.reduceSub, Int.reduceMul, Int.reduceNeg, Int.reduceToNat, Nat.reduceEqDiff, reduceIte, if_neg, if_pos, gI_ne]
      · simp (disch := omega) only [qbI_s, qbL_s, qbV_s, qbR_s, qbR_n, qbN_s, qbN_n, qbIX_s, qbIX_n, qbVX_s, qbVX_n, cond_true, cond_false, cond_dec, jadd, jsub, jmul, jneg, li_0, li_1, li_2, li_3, li_4, li_5, li_6, li_7, li_8, li_9, li_10, li_14, li_15, li_16, li_19, li_20, li_24, li_30, li_31, li_32, li_39, li_40, li_48, li_57, li_59, li_60, li_63, li_65, li_80, li_81, li_90, li_97, li_99, li_100, li_122, li_126, li_127, li_150, li_160, li_200, li_225, li_255, li_400, li_799, li_800, li_999, li_2400, li_3239, li_3240, li_1048575, li_1431655765, li_858993459, li_252645135, eqb_j, ltb_j, leb_j, inb_j, ix_j, ix_n, nz_b, nz_0, nz_1, eqb_b, bnot, vI_ne, vI_eq, gIL, gLI, gIR, gRI, gLR, gRL, Int.reduceLT, Int.reduceLE, Int.reduceEq, Int.reduceAdd, Int.reduceSub, Int.reduceMul, Int.reduceNeg, Int.reduceToNat, Nat.reduceEqDiff, reduceIte, if_neg, if_pos, gI_ne]
        exact ⟨trivial, fun _ => trivial⟩
  · rw [decide_eq_false c] at im
    refine wp_e (x := ()) (m := m1) ?_ ?_
    · simp (disch := omega) only [fX13_judge_0, qbI_s, qbL_s, qbV_s, qbR_s, qbR_n, qbN_s, qbN_n, qbIX_s, qbIX_n, qbVX_s, qbVX_n, cond_true, cond_false, cond_dec, jadd, jsub, jmul, jneg, li_0, li_1, li_2, li_3, li_4, li_5, li_6, li_7, li_8, li_9, li_10, li_14, li_15, li_16, li_19, li_20, li_24, li_30, li_31, li_32, li_39, li_40, li_48, li_57, li_59, li_60, li_63, li_65, li_80, li_81, li_90, li_97, li_99, li_100, li_122, li_126, li_127, li_150, li_160, li_200, li_225, li_255, li_400, li_799, li_800, li_999, li_2400, li_3239, li_3240, li_1048575, li_1431655765, li_858993459, li_252645135, eqb_j, ltb_j, leb_j, inb_j, ix_j, ix_n, nz_b, nz_0, nz_1, eqb_b, bnot, vI_ne, vI_eq, gIL, gLI, gIR, gRI, gLR, gRL, Int.reduceLT, Int.reduceLE, Int.reduceEq, Int.reduceAdd, Int.reduceSub, Int.reduceMul, Int.reduceNeg, Int.reduceToNat, Nat.reduceEqDiff, reduceIte, if_neg, if_pos, gI_ne, e1, im, show bI false = 0 from rfl]
    · rw [stC, if_neg c]
      exact M1
theorem tryMoves_s (L : Bool) (m0 m : qM) (d : Dt) (b : Cs) (hD : DOk d) (hCl : CClash m d) (hb : cOK d b) (h : MCt m0 d b m) : wp (fX13_tryMoves (Zi (bI L)) m) (fun _ m' => MCt m0 d (mvA d L (d 98 32).toNat 0 b) m') := by
  have n1 := hD.2.2.2.2.1
  have n2 := hD.2.2.2.2.2.1
  have key27 : ∀ (k61 : Int32 → Int32 → qM → Option (Unit × qM)) (Q : Unit → qM → Prop) (a : Nat), (a : Int) < d 98 32 → ∀ (r s g : Nat) (w : qM) (b : Cs), s + r = 20 → r < g → MCt m0 (upS d a (-1)) b w → cOK d b → (∀ w', MCt m0 d (mvS d a r s b) w' → wp (k61 (Zi (bI L)) (Zi a) w') Q) → wp (fX13_tryMoves_27 k61 g (Zi (bI L)) (Zi a) (Zi (d 125 a)) (Zi s) w) Q := by
    intro k61 Q a ha r
    have ra := (hD.2.2.2.2.2.2 a ha).2.2.2
    induction r with
    | zero =>
      intro s g w b hs hg hw hb hk
      obtain ⟨g, rfl⟩ : ∃ g', g = g' + 1 := ⟨g - 1, by omega⟩
      have w2 := hw.set a (d 125 a) ra
      rw [upS_up, upS_self] at w2
      simp (disch := omega) only [fX13_tryMoves_27, qbI_s, qbL_s, qbV_s, qbR_s, qbR_n, qbN_s, qbN_n, qbIX_s, qbIX_n, qbVX_s, qbVX_n, cond_true, cond_false, cond_dec, jadd, jsub, jmul, jneg, li_0, li_1, li_2, li_3, li_4, li_5, li_6, li_7, li_8, li_9, li_10, li_14, li_15, li_16, li_19, li_20, li_24, li_30, li_31, li_32, li_39, li_40, li_48, li_57, li_59, li_60, li_63, li_65, li_80, li_81, li_90, li_97, li_99, li_100, li_122, li_126, li_127, li_150, li_160, li_200, li_225, li_255, li_400, li_799, li_800, li_999, li_2400, li_3239, li_3240, li_1048575, li_1431655765, li_858993459, li_252645135, eqb_j, ltb_j, leb_j, inb_j, ix_j, ix_n, nz_b, nz_0, nz_1, eqb_b, bnot, vI_ne, vI_eq, gIL, gLI, gIR, gRI, gLR, gRL, Int.reduceLT, Int.reduceLE, Int.reduceEq, Int.reduceAdd, Int.reduceSub, Int.reduceMul, Int.reduceNeg, Int.reduceToNat, Nat.reduceEqDiff, reduceIte, if_neg, if_pos, gI_ne]
      exact hk _ w2
    | succ r ih =>
      intro s g w b hs hg hw hb hk
      obtain ⟨g, rfl⟩ : ∃ g', g = g' + 1 := ⟨g - 1, by omega⟩
      rw [mvS] at hk
      have D1 : DOk (upS d a (-1)) := hD.up a (-1) (by omega)
      have hmb := mayBe_s w (MOk.ofD D1 hw.1) a s (by rw [hw.1 98 32 (by unfold dP; omega), upS_ne _ _ _ (by omega)]; exact ha) (by omega) (by rw [hw.1 125 a (by unfold dP; omega), upS_eq, if_pos rfl])
      rw [mb_mono hw.1] at hmb
      by_cases hsa : (s : Int) = d 125 a
      · rw [if_neg (fun z => z.1 hsa)] at hk
        have nx := ih (s + 1) g w b (by omega) (by omega) hw hb hk
        simp (disch := omega) only [fX13_tryMoves_27, fX13_tryMoves_54, qbI_s, qbL_s, qbV_s, qbR_s, qbR_n, qbN_s, qbN_n, qbIX_s, qbIX_n, qbVX_s, qbVX_n, cond_true, cond_false, cond_dec, jadd, jsub, jmul, jneg, li_0, li_1, li_2, li_3, li_4, li_5, li_6, li_7, li_8, li_9, li_10, li_14, li_15, li_16, li_19, li_20, li_24, li_30, li_31, li_32, li_39, li_40, li_48, li_57, li_59, li_60, li_63, li_65, li_80, li_81, li_90, li_97, li_99, li_100, li_122, li_126, li_127, li_150, li_160, li_200, li_225, li_255, li_400, li_799, li_800, li_999, li_2400, li_3239, li_3240, li_1048575, li_1431655765, li_858993459, li_252645135, eqb_j, ltb_j, leb_j, inb_j, ix_j, ix_n, nz_b, nz_0, nz_1, eqb_b, bnot, vI_ne, vI_eq, gIL, gLI, gIR, gRI, gLR, gRL, Int.reduceLT, Int.reduceLE, Int.reduceEq, Int.reduceAdd, Int.reduceSub, Int.reduceMul, Int.reduceNeg, Int.reduceToNat, Nat.reduceEqDiff, reduceIte, if_neg, if_pos, gI_ne]
        exact nx
      · cases hm : mbV (upS d a (-1)) a s
        · rw [hm] at hmb hk
          rw [if_neg (fun z => by cases z.2)] at hk
          have nx := ih (s + 1) g w b (by omega) (by omega) hw hb hk
          simp (disch := omega) only [fX13_tryMoves_27, fX13_tryMoves_54, qbI_s, qbL_s, qbV_s, qbR_s, qbR_n, qbN_s, qbN_n, qbIX_s, qbIX_n, qbVX_s, qbVX_n, cond_true, cond_false, cond_dec, jadd, jsub, jmul, jneg, li_0, li_1, li_2, li_3, li_4, li_5, li_6, li_7, li_8, li_9, li_10, li_14, li_15, li_16, li_19, li_20, li_24, li_30, li_31, li_32, li_39, li_40, li_48, li_57, li_59, li_60, li_63, li_65, li_80, li_81, li_90, li_97, li_99, li_100, li_122, li_126, li_127, li_150, li_160, li_200, li_225, li_255, li_400, li_799, li_800, li_999, li_2400, li_3239, li_3240, li_1048575, li_1431655765, li_858993459, li_252645135, eqb_j, ltb_j, leb_j, inb_j, ix_j, ix_n, nz_b, nz_0, nz_1, eqb_b, bnot, vI_ne, vI_eq, gIL, gLI, gIR, gRI, gLR, gRL, Int.reduceLT, Int.reduceLE, Int.reduceEq, Int.reduceAdd, Int.reduceSub, Int.reduceMul, Int.reduceNeg, Int.reduceToNat, Nat.reduceEqDiff, reduceIte, if_neg, if_pos, gI_ne, hmb, show bI false = 0 from rfl]
          exact nx
        · rw [hm] at hmb hk
          rw [if_pos ⟨hsa, rfl⟩] at hk
          have w2 := hw.set a s (by omega)
          rw [upS_up] at w2
          have ob := hb.dt hD hCl
          have cl2 : CClash (sI w 125 a (Zi s)) (upS d a s) := by
            have := CClash.up (m := m) (m' := sI w 125 a (Zi s)) (hCl.dn (m' := m) a) a s (by rw [upS_ne _ _ _ (by omega)]; exact ha) (NC.of_mb hm)
            rw [upS_up] at this
            exact this
          obtain ⟨y, w3, e1, e2⟩ := judge_s w2 (hD.up a s (by omega)) cl2 ob.1 ob.2.2 a (-1) s (by omega) (by omega) (by omega)
          have w4 := e2.set a (-1) (by omega)
          rw [upS_up] at w4
          have nx := ih (s + 1) g _ _ (by omega) (by omega) w4 (stC_mv hb a s ha (by omega) hm) hk
          simp (disch := omega) only [fX13_tryMoves_27, fX13_tryMoves_54, qbI_s, qbL_s, qbV_s, qbR_s, qbR_n, qbN_s, qbN_n, qbIX_s, qbIX_n, qbVX_s, qbVX_n, cond_true, cond_false, cond_dec, jadd, jsub, jmul, jneg, li_0, li_1, li_2, li_3, li_4, li_5, li_6, li_7, li_8, li_9, li_10, li_14, li_15, li_16, li_19, li_20, li_24, li_30, li_31, li_32, li_39, li_40, li_48, li_57, li_59, li_60, li_63, li_65, li_80, li_81, li_90, li_97, li_99, li_100, li_122, li_126, li_127, li_150, li_160, li_200, li_225, li_255, li_400, li_799, li_800, li_999, li_2400, li_3239, li_3240, li_1048575, li_1431655765, li_858993459, li_252645135, eqb_j, ltb_j, leb_j, inb_j, ix_j, ix_n, nz_b, nz_0, nz_1, eqb_b, bnot, vI_ne, vI_eq, gIL, gLI, gIR, gRI, gLR, gRL, Int.reduceLT, Int.reduceLE, Int.reduceEq, Int.reduceAdd, Int.reduceSub, Int.reduceMul, Int.reduceNeg, Int.reduceToNat, Nat.reduceEqDiff, reduceIte, if_neg, if_pos, gI_ne, hmb, show bI true = 1 from rfl, show (-1 : Int32) = Zi (-1) from rfl, e1]
          exact nx
  have key2 : ∀ (r i g : Nat) (w : qM) (b : Cs), i + r = (d 98 32).toNat → r < g → MCt m0 d b w → cOK d b → wp (fX13_tryMoves_2 g (Zi (bI L)) (Zi i) w) (fun _ m' => MCt m0 d (mvA d L r i b) m') := by
    intro r
    induction r with
    | zero =>
      intro i g w b hi hg hw hb
      obtain ⟨g, rfl⟩ : ∃ g', g = g' + 1 := ⟨g - 1, by omega⟩
      have w32 := hw.1 98 32 (by unfold dP; omega)
      refine wp_e (x := ()) (m := w) ?_ hw
      simp (disch := omega) only [fX13_tryMoves_2, qbI_s, qbL_s, qbV_s, qbR_s, qbR_n, qbN_s, qbN_n, qbIX_s, qbIX_n, qbVX_s, qbVX_n, cond_true, cond_false, cond_dec, jadd, jsub, jmul, jneg, li_0, li_1, li_2, li_3, li_4, li_5, li_6, li_7, li_8, li_9, li_10, li_14, li_15, li_16, li_19, li_20, li_24, li_30, li_31, li_32, li_39, li_40, li_48, li_57, li_59, li_60, li_63, li_65, li_80, li_81, li_90, li_97, li_99, li_100, li_122, li_126, li_127, li_150, li_160, li_200, li_225, li_255, li_400, li_799, li_800, li_999, li_2400, li_3239, li_3240, li_1048575, li_1431655765, li_858993459, li_252645135, eqb_j, ltb_j, leb_j, inb_j, ix_j, ix_n, nz_b, nz_0, nz_1, eqb_b, bnot, vI_ne, vI_eq, gIL, gLI, gIR, gRI, gLR, gRL, Int.reduceLT, Int.reduceLE, Int.reduceEq, Int.reduceAdd, Int.reduceSub, Int.reduceMul, Int.reduceNeg, Int.reduceToNat, Nat.reduceEqDiff, reduceIte, if_neg, if_pos, gI_ne, gIv 98, w32]
    | succ r ih =>
      intro i g w b hi hg hw hb
      obtain ⟨g, rfl⟩ : ∃ g', g = g' + 1 := ⟨g - 1, by omega⟩
      have w32 := hw.1 98 32 (by unfold dP; omega)
      have w125 := hw.1 125 i (by unfold dP; omega)
      have ri := (hD.2.2.2.2.2.2 i (by omega)).2.2.2
      rw [mvA]
      have go : isLd d i = L → wp (fX13_tryMoves_27 (fX13_tryMoves_61 (fX13_tryMoves_2 g)) FU (Zi (bI L)) (Zi i) (Zi (d 125 i)) (Zi 0) (sI w 125 i (Zi (-1)))) (fun _ m' => MCt m0 d (mvA d L r (i + 1) (mvS d i 20 0 b)) m') := fun _ =>
        key27 (fX13_tryMoves_61 (fX13_tryMoves_2 g)) _ i (by omega) 20 0 FU _ b (by omega) (by rw [FU_d]; omega) (hw.set i (-1) (by omega)) hb (fun w' h1 => by
          have := ih (i + 1) g w' _ (by omega) (by omega) h1 (mvS_ok i (by omega) 20 0 b (by omega) hb)
          simp (disch := omega) only [fX13_tryMoves_61, qbI_s, qbL_s, qbV_s, qbR_s, qbR_n, qbN_s, qbN_n, qbIX_s, qbIX_n, qbVX_s, qbVX_n, cond_true, cond_false, cond_dec, jadd, jsub, jmul, jneg, li_0, li_1, li_2, li_3, li_4, li_5, li_6, li_7, li_8, li_9, li_10, li_14, li_15, li_16, li_19, li_20, li_24, li_30, li_31, li_32, li_39, li_40, li_48, li_57, li_59, li_60, li_63, li_65, li_80, li_81, li_90, li_97, li_99, li_100, li_122, li_126, li_127, li_150, li_160, li_200, li_225, li_255, li_400, li_799, li_800, li_999, li_2400, li_3239, li_3240, li_1048575, li_1431655765, li_858993459, li_252645135, eqb_j, ltb_j, leb_j, inb_j, ix_j, ix_n, nz_b, nz_0, nz_1, eqb_b, bnot, vI_ne, vI_eq, gIL, gLI, gIR, gRI, gLR, gRL, Int.reduceLT, Int.reduceLE, Int.reduceEq, Int.reduceAdd, Int.reduceSub, Int.reduceMul, Int.reduceNeg, Int.reduceToNat, Nat.reduceEqDiff, reduceIte, if_neg, if_pos, gI_ne]
          exact this)
      have no : isLd d i ≠ L → wp (fX13_tryMoves_2 g (Zi (bI L)) (Zi ((i : Int) + 1)) w) (fun _ m' => MCt m0 d (mvA d L r (i + 1) b) m') := fun _ => ih (i + 1) g w b (by omega) (by omega) hw hb
      by_cases hl : d 125 i = -1
      · have e0 : isLd d i = false := decide_eq_false (fun z => z hl)
        rw [e0] at go no ⊢
        cases L
        · rw [if_pos rfl]
          have go' := go rfl
          rw [hl] at go'
          simp (disch := omega) only [fX13_tryMoves_2, fX13_tryMoves_17, qbI_s, qbL_s, qbV_s, qbR_s, qbR_n, qbN_s, qbN_n, qbIX_s, qbIX_n, qbVX_s, qbVX_n, cond_true, cond_false, cond_dec, jadd, jsub, jmul, jneg, li_0, li_1, li_2, li_3, li_4, li_5, li_6, li_7, li_8, li_9, li_10, li_14, li_15, li_16, li_19, li_20, li_24, li_30, li_31, li_32, li_39, li_40, li_48, li_57, li_59, li_60, li_63, li_65, li_80, li_81, li_90, li_97, li_99, li_100, li_122, li_126, li_127, li_150, li_160, li_200, li_225, li_255, li_400, li_799, li_800, li_999, li_2400, li_3239, li_3240, li_1048575, li_1431655765, li_858993459, li_252645135, eqb_j, ltb_j, leb_j, inb_j, ix_j, ix_n, nz_b, nz_0, nz_1, eqb_b, bnot, vI_ne, vI_eq, gIL, gLI, gIR, gRI, gLR, gRL, Int.reduceLT, Int.reduceLE, Int.reduceEq, Int.reduceAdd, Int.reduceSub, Int.reduceMul, Int.reduceNeg, Int.reduceToNat, Nat.reduceEqDiff, reduceIte, if_neg, if_pos, gI_ne, gIv 98, w32, gIv 125, w125, hl, show (-1 : Int32) = Zi (-1) from rfl, show bI false = 0 from rfl]
          exact go'
        · rw [if_neg (by decide)]
          simp (disch := omega) only [fX13_tryMoves_2, fX13_tryMoves_17, fX13_tryMoves_61, qbI_s, qbL_s, qbV_s, qbR_s, qbR_n, qbN_s, qbN_n, qbIX_s, qbIX_n, qbVX_s, qbVX_n, cond_true, cond_false, cond_dec, jadd, jsub, jmul, jneg, li_0, li_1, li_2, li_3, li_4, li_5, li_6, li_7, li_8, li_9, li_10, li_14, li_15, li_16, li_19, li_20, li_24, li_30, li_31, li_32, li_39, li_40, li_48, li_57, li_59, li_60, li_63, li_65, li_80, li_81, li_90, li_97, li_99, li_100, li_122, li_126, li_127, li_150, li_160, li_200, li_225, li_255, li_400, li_799, li_800, li_999, li_2400, li_3239, li_3240, li_1048575, li_1431655765, li_858993459, li_252645135, eqb_j, ltb_j, leb_j, inb_j, ix_j, ix_n, nz_b, nz_0, nz_1, eqb_b, bnot, vI_ne, vI_eq, gIL, gLI, gIR, gRI, gLR, gRL, Int.reduceLT, Int.reduceLE, Int.reduceEq, Int.reduceAdd, Int.reduceSub, Int.reduceMul, Int.reduceNeg, Int.reduceToNat, Nat.reduceEqDiff, reduceIte, if_neg, if_pos, gI_ne, gIv 98, w32, gIv 125, w125, hl, show (-1 : Int32) = Zi (-1) from rfl, show bI true = 1 from rfl]
          exact no (by decide)
      · have e0 : isLd d i = true := decide_eq_true hl
        rw [e0] at go no ⊢
        cases L
        · rw [if_neg (by decide)]
          simp (disch := omega) only [fX13_tryMoves_2, fX13_tryMoves_17, fX13_tryMoves_61, qbI_s, qbL_s, qbV_s, qbR_s, qbR_n, qbN_s, qbN_n, qbIX_s, qbIX_n, qbVX_s, qbVX_n, cond_true, cond_false, cond_dec, jadd, jsub, jmul, jneg, li_0, li_1, li_2, li_3, li_4, li_5, li_6, li_7, li_8, li_9, li_10, li_14, li_15, li_16, li_19, li_20, li_24, li_30, li_31, li_32, li_39, li_40, li_48, li_57, li_59, li_60, li_63, li_65, li_80, li_81, li_90, li_97, li_99, li_100, li_122, li_126, li_127, li_150, li_160, li_200, li_225, li_255, li_400, li_799, li_800, li_999, li_2400, li_3239, li_3240, li_1048575, li_1431655765, li_858993459, li_252645135, eqb_j, ltb_j, leb_j, inb_j, ix_j, ix_n, nz_b, nz_0, nz_1, eqb_b, bnot, vI_ne, vI_eq, gIL, gLI, gIR, gRI, gLR, gRL, Int.reduceLT, Int.reduceLE, Int.reduceEq, Int.reduceAdd, Int.reduceSub, Int.reduceMul, Int.reduceNeg, Int.reduceToNat, Nat.reduceEqDiff, reduceIte, if_neg, if_pos, gI_ne, gIv 98, w32, gIv 125, w125, show (-1 : Int32) = Zi (-1) from rfl, show bI false = 0 from rfl]
          exact no (by decide)
        · rw [if_pos rfl]
          simp (disch := omega) only [fX13_tryMoves_2, fX13_tryMoves_17, qbI_s, qbL_s, qbV_s, qbR_s, qbR_n, qbN_s, qbN_n, qbIX_s, qbIX_n, qbVX_s, qbVX_n, cond_true, cond_false, cond_dec, jadd, jsub, jmul, jneg, li_0, li_1, li_2, li_3, li_4, li_5, li_6, li_7, li_8, li_9, li_10, li_14, li_15, li_16, li_19, li_20, li_24, li_30, li_31, li_32, li_39, li_40, li_48, li_57, li_59, li_60, li_63, li_65, li_80, li_81, li_90, li_97, li_99, li_100, li_122, li_126, li_127, li_150, li_160, li_200, li_225, li_255, li_400, li_799, li_800, li_999, li_2400, li_3239, li_3240, li_1048575, li_1431655765, li_858993459, li_252645135, eqb_j, ltb_j, leb_j, inb_j, ix_j, ix_n, nz_b, nz_0, nz_1, eqb_b, bnot, vI_ne, vI_eq, gIL, gLI, gIR, gRI, gLR, gRL, Int.reduceLT, Int.reduceLE, Int.reduceEq, Int.reduceAdd, Int.reduceSub, Int.reduceMul, Int.reduceNeg, Int.reduceToNat, Nat.reduceEqDiff, reduceIte, if_neg, if_pos, gI_ne, gIv 98, w32, gIv 125, w125, show (-1 : Int32) = Zi (-1) from rfl, show bI true = 1 from rfl]
          exact go rfl
  rw [fX13_tryMoves_d]
  simp only [fX13_tryMoves_0]
  exact key2 (d 98 32).toNat 0 FU m b (by omega) (by rw [FU_d]; omega) h hb
theorem trySwaps_s (m0 m : qM) (d : Dt) (b : Cs) (hD : DOk d) (hCl : CClash m d) (hb : cOK d b) (h : MCt m0 d b m) : wp (fX13_trySwaps m) (fun _ m' => MCt m0 d (swO d (d 98 32).toNat (d 98 32).toNat 0 b) m') := by
  have n1 := hD.2.2.2.2.1
  have n2 := hD.2.2.2.2.2.1
  have key10 : ∀ (k2 : Int32 → qM → Option (Unit × qM)) (Q : Unit → qM → Prop) (a : Nat), (a : Int) < d 98 32 → ∀ (r i g : Nat) (w : qM) (b : Cs), a < i → i + r = (d 98 32).toNat → r < g → MCt m0 d b w → cOK d b → (∀ w', MCt m0 d (swI d a r i b) w' → wp (k2 (Zi ((a : Int) + 1)) w') Q) → wp (fX13_trySwaps_10 k2 g (Zi a) (Zi i) w) Q := by
    intro k2 Q a ha r
    induction r with
    | zero =>
      intro i g w b hai hi hg hw hb hk
      obtain ⟨g, rfl⟩ : ∃ g', g = g' + 1 := ⟨g - 1, by omega⟩
      have w32 := hw.1 98 32 (by unfold dP; omega)
      simp (disch := omega) only [fX13_trySwaps_10, qbI_s, qbL_s, qbV_s, qbR_s, qbR_n, qbN_s, qbN_n, qbIX_s, qbIX_n, qbVX_s, qbVX_n, cond_true, cond_false, cond_dec, jadd, jsub, jmul, jneg, li_0, li_1, li_2, li_3, li_4, li_5, li_6, li_7, li_8, li_9, li_10, li_14, li_15, li_16, li_19, li_20, li_24, li_30, li_31, li_32, li_39, li_40, li_48, li_57, li_59, li_60, li_63, li_65, li_80, li_81, li_90, li_97, li_99, li_100, li_122, li_126, li_127, li_150, li_160, li_200, li_225, li_255, li_400, li_799, li_800, li_999, li_2400, li_3239, li_3240, li_1048575, li_1431655765, li_858993459, li_252645135, eqb_j, ltb_j, leb_j, inb_j, ix_j, ix_n, nz_b, nz_0, nz_1, eqb_b, bnot, vI_ne, vI_eq, gIL, gLI, gIR, gRI, gLR, gRL, Int.reduceLT, Int.reduceLE, Int.reduceEq, Int.reduceAdd, Int.reduceSub, Int.reduceMul, Int.reduceNeg, Int.reduceToNat, Nat.reduceEqDiff, reduceIte, if_neg, if_pos, gI_ne, gIv 98, w32]
      exact hk w hw
    | succ r ih =>
      intro i g w b hai hi hg hw hb hk
      obtain ⟨g, rfl⟩ : ∃ g', g = g' + 1 := ⟨g - 1, by omega⟩
      have hi' : (i : Int) < d 98 32 := by omega
      have w32 := hw.1 98 32 (by unfold dP; omega)
      have wa := hw.1 125 a (by unfold dP; omega)
      have wi := hw.1 125 i (by unfold dP; omega)
      have ra := (hD.2.2.2.2.2.2 a ha).2.2.2
      have ri := (hD.2.2.2.2.2.2 i hi').2.2.2
      rw [swI] at hk
      have skip : ¬ swB d a i → wp (fX13_trySwaps_10 k2 g (Zi a) (Zi ((i : Int) + 1)) w) Q := fun hs => by
        rw [pd_f hs, if_neg (by decide)] at hk
        exact ih (i + 1) g w b (by omega) (by omega) (by omega) hw hb hk
      by_cases la : d 125 a = -1
      · simp (disch := omega) only [fX13_trySwaps_10, fX13_trySwaps_79, qbI_s, qbL_s, qbV_s, qbR_s, qbR_n, qbN_s, qbN_n, qbIX_s, qbIX_n, qbVX_s, qbVX_n, cond_true, cond_false, cond_dec, jadd, jsub, jmul, jneg, li_0, li_1, li_2, li_3, li_4, li_5, li_6, li_7, li_8, li_9, li_10, li_14, li_15, li_16, li_19, li_20, li_24, li_30, li_31, li_32, li_39, li_40, li_48, li_57, li_59, li_60, li_63, li_65, li_80, li_81, li_90, li_97, li_99, li_100, li_122, li_126, li_127, li_150, li_160, li_200, li_225, li_255, li_400, li_799, li_800, li_999, li_2400, li_3239, li_3240, li_1048575, li_1431655765, li_858993459, li_252645135, eqb_j, ltb_j, leb_j, inb_j, ix_j, ix_n, nz_b, nz_0, nz_1, eqb_b, bnot, vI_ne, vI_eq, gIL, gLI, gIR, gRI, gLR, gRL, Int.reduceLT, Int.reduceLE, Int.reduceEq, Int.reduceAdd, Int.reduceSub, Int.reduceMul, Int.reduceNeg, Int.reduceToNat, Nat.reduceEqDiff, reduceIte, if_neg, if_pos, gI_ne, gIv 98, w32, gIv 125, wa, wi, la, show (-1 : Int32) = Zi (-1) from rfl]
        exact skip fun z => z.1 la
      · by_cases li : d 125 i = -1
        · simp (disch := omega) only [fX13_trySwaps_10, fX13_trySwaps_79, qbI_s, qbL_s, qbV_s, qbR_s, qbR_n, qbN_s, qbN_n, qbIX_s, qbIX_n, qbVX_s, qbVX_n, cond_true, cond_false, cond_dec, jadd, jsub, jmul, jneg, li_0, li_1, li_2, li_3, li_4, li_5, li_6, li_7, li_8, li_9, li_10, li_14, li_15, li_16, li_19, li_20, li_24, li_30, li_31, li_32, li_39, li_40, li_48, li_57, li_59, li_60, li_63, li_65, li_80, li_81, li_90, li_97, li_99, li_100, li_122, li_126, li_127, li_150, li_160, li_200, li_225, li_255, li_400, li_799, li_800, li_999, li_2400, li_3239, li_3240, li_1048575, li_1431655765, li_858993459, li_252645135, eqb_j, ltb_j, leb_j, inb_j, ix_j, ix_n, nz_b, nz_0, nz_1, eqb_b, bnot, vI_ne, vI_eq, gIL, gLI, gIR, gRI, gLR, gRL, Int.reduceLT, Int.reduceLE, Int.reduceEq, Int.reduceAdd, Int.reduceSub, Int.reduceMul, Int.reduceNeg, Int.reduceToNat, Nat.reduceEqDiff, reduceIte, if_neg, if_pos, gI_ne, gIv 98, w32, gIv 125, wa, wi, li, show (-1 : Int32) = Zi (-1) from rfl]
          exact skip fun z => z.2.1 li
        · by_cases le : d 125 a = d 125 i
          · simp (disch := omega) only [fX13_trySwaps_10, fX13_trySwaps_79, qbI_s, qbL_s, qbV_s, qbR_s, qbR_n, qbN_s, qbN_n, qbIX_s, qbIX_n, qbVX_s, qbVX_n, cond_true, cond_false, cond_dec, jadd, jsub, jmul, jneg, li_0, li_1, li_2, li_3, li_4, li_5, li_6, li_7, li_8, li_9, li_10, li_14, li_15, li_16, li_19, li_20, li_24, li_30, li_31, li_32, li_39, li_40, li_48, li_57, li_59, li_60, li_63, li_65, li_80, li_81, li_90, li_97, li_99, li_100, li_122, li_126, li_127, li_150, li_160, li_200, li_225, li_255, li_400, li_799, li_800, li_999, li_2400, li_3239, li_3240, li_1048575, li_1431655765, li_858993459, li_252645135, eqb_j, ltb_j, leb_j, inb_j, ix_j, ix_n, nz_b, nz_0, nz_1, eqb_b, bnot, vI_ne, vI_eq, gIL, gLI, gIR, gRI, gLR, gRL, Int.reduceLT, Int.reduceLE, Int.reduceEq, Int.reduceAdd, Int.reduceSub, Int.reduceMul, Int.reduceNeg, Int.reduceToNat, Nat.reduceEqDiff, reduceIte, if_neg, if_pos, gI_ne, gIv 98, w32, gIv 125, wa, wi, show (-1 : Int32) = Zi (-1) from rfl]
            exact skip fun z => z.2.2.1 le
          · obtain ⟨s1, hs1⟩ : ∃ s1 : Nat, d 125 a = s1 := ⟨(d 125 a).toNat, by omega⟩
            obtain ⟨s2, hs2⟩ : ∃ s2 : Nat, d 125 i = s2 := ⟨(d 125 i).toNat, by omega⟩
            have q2 : ∀ c k, ¬ c = 125 → sw2 d a i c k = d c k := fun c k hc => by unfold sw2; rw [upS_ne _ _ _ hc, upS_ne _ _ _ hc]
            have D2 : DOk (sw2 d a i) := (hD.up a (-1) (by omega)).up i (-1) (by omega)
            have hu2a : sw2 d a i 125 a = -1 := by unfold sw2; rw [upS_eq, if_neg (by omega), upS_eq, if_pos rfl]
            have hu2i : sw2 d a i 125 i = -1 := by unfold sw2; rw [upS_eq, if_pos rfl]
            have w2 : MCt m0 (sw2 d a i) b (sI (sI w 125 a (Zi (-1))) 125 i (Zi (-1))) := (hw.set a (-1) (by omega)).set i (-1) (by omega)
            have mb1 := mayBe_s _ (MOk.ofD D2 w2.1) a s2 (by rw [w2.1 98 32 (by unfold dP; omega), q2 _ _ (by omega)]; exact ha) (by omega) (by rw [w2.1 125 a (by unfold dP; omega)]; exact hu2a)
            rw [mb_mono w2.1] at mb1
            have back : ∀ (X : Dt) (b' : Cs) (v : qM), MCt m0 X b' v → (∀ c k, ¬ c = 125 → X c k = d c k) → (∀ k, k ≠ a → k ≠ i → X 125 k = d 125 k) → MCt m0 d b' (sI (sI v 125 a (Zi s1)) 125 i (Zi s2)) := fun X b' v hv x1 x2 => by
              have := (hv.set a s1 (by omega)).set i s2 (by omega)
              rw [show upS (upS X a s1) i s2 = d by
                refine dt_ext (fun c k hc => by rw [upS_ne _ _ _ hc, upS_ne _ _ _ hc]; exact x1 c k hc) fun k => ?_
                rw [upS_eq, upS_eq]
                by_cases ki : k = i
                · rw [if_pos ki, ki, hs2]
                · rw [if_neg ki]
                  by_cases ka : k = a
                  · rw [if_pos ka, ka, hs1]
                  · rw [if_neg ka]
                    exact x2 k ka ki] at this
              exact this
            have x2s : ∀ k, k ≠ a → k ≠ i → sw2 d a i 125 k = d 125 k := fun k ka ki => by unfold sw2; rw [upS_eq, if_neg ki, upS_eq, if_neg ka]
            cases hb1 : mbV (sw2 d a i) a s2
            · rw [hb1] at mb1
              have hn : ¬ swB d a i := fun ⟨_, _, _, z, _⟩ => by
                rw [hs2, Int.toNat_natCast, hb1] at z
                cases z
              rw [pd_f hn, if_neg (by decide)] at hk
              have nx := ih (i + 1) g _ b (by omega) (by omega) (by omega) (back _ b _ w2 q2 x2s) hb hk
              simp (disch := omega) only [fX13_trySwaps_10, fX13_trySwaps_69, fX13_trySwaps_79, qbI_s, qbL_s, qbV_s, qbR_s, qbR_n, qbN_s, qbN_n, qbIX_s, qbIX_n, qbVX_s, qbVX_n, cond_true, cond_false, cond_dec, jadd, jsub, jmul, jneg, li_0, li_1, li_2, li_3, li_4, li_5, li_6, li_7, li_8, li_9, li_10, li_14, li_15, li_16, li_19, li_20, li_24, li_30, li_31, li_32, li_39, li_40, li_48, li_57, li_59, li_60, li_63, li_65, li_80, li_81, li_90, li_97, li_99, li_100, li_122, li_126, li_127, li_150, li_160, li_200, li_225, li_255, li_400, li_799, li_800, li_999, li_2400, li_3239, li_3240, li_1048575, li_1431655765, li_858993459, li_252645135, eqb_j, ltb_j, leb_j, inb_j, ix_j, ix_n, nz_b, nz_0, nz_1, eqb_b, bnot, vI_ne, vI_eq, gIL, gLI, gIR, gRI, gLR, gRL, Int.reduceLT, Int.reduceLE, Int.reduceEq, Int.reduceAdd, Int.reduceSub, Int.reduceMul, Int.reduceNeg, Int.reduceToNat, Nat.reduceEqDiff, reduceIte, if_neg, if_pos, gI_ne, gIv 98, w32, gIv 125, wa, wi, hs1, hs2, show (-1 : Int32) = Zi (-1) from rfl, mb1, show bI false = 0 from rfl]
              exact nx
            · rw [hb1] at mb1
              have w3 := w2.set a s2 (by omega)
              have D3 : DOk (upS (sw2 d a i) a s2) := D2.up a s2 (by omega)
              have mb2 := mayBe_s _ (MOk.ofD D3 w3.1) i s1 (by rw [w3.1 98 32 (by unfold dP; omega), upS_ne _ _ _ (by omega), q2 _ _ (by omega)]; exact hi') (by omega) (by rw [w3.1 125 i (by unfold dP; omega), upS_eq, if_neg (by omega)]; exact hu2i)
              rw [mb_mono w3.1] at mb2
              have x3s : ∀ k, k ≠ a → k ≠ i → upS (sw2 d a i) a s2 125 k = d 125 k := fun k ka ki => by rw [upS_eq, if_neg ka]; exact x2s k ka ki
              have q3 : ∀ c k, ¬ c = 125 → upS (sw2 d a i) a s2 c k = d c k := fun c k hc => by rw [upS_ne _ _ _ hc]; exact q2 c k hc
              cases hb2 : mbV (upS (sw2 d a i) a s2) i s1
              · rw [hb2] at mb2
                have hn : ¬ swB d a i := fun ⟨_, _, _, _, z⟩ => by
                  rw [hs2, hs1, Int.toNat_natCast, hb2] at z
                  cases z
                rw [pd_f hn, if_neg (by decide)] at hk
                have nx := ih (i + 1) g _ b (by omega) (by omega) (by omega) (back _ b _ w3 q3 x3s) hb hk
                simp (disch := omega) only [fX13_trySwaps_10, fX13_trySwaps_69, fX13_trySwaps_79, qbI_s, qbL_s, qbV_s, qbR_s, qbR_n, qbN_s, qbN_n, qbIX_s, qbIX_n, qbVX_s, qbVX_n, cond_true, cond_false, cond_dec, jadd, jsub, jmul, jneg, li_0, li_1, li_2, li_3, li_4, li_5, li_6, li_7, li_8, li_9, li_10, li_14, li_15, li_16, li_19, li_20, li_24, li_30, li_31, li_32, li_39, li_40, li_48, li_57, li_59, li_60, li_63, li_65, li_80, li_81, li_90, li_97, li_99, li_100, li_122, li_126, li_127, li_150, li_160, li_200, li_225, li_255, li_400, li_799, li_800, li_999, li_2400, li_3239, li_3240, li_1048575, li_1431655765, li_858993459, li_252645135, eqb_j, ltb_j, leb_j, inb_j, ix_j, ix_n, nz_b, nz_0, nz_1, eqb_b, bnot, vI_ne, vI_eq, gIL, gLI, gIR, gRI, gLR, gRL, Int.reduceLT, Int.reduceLE, Int.reduceEq, Int.reduceAdd, Int.reduceSub, Int.reduceMul, Int.reduceNeg, Int.reduceToNat, Nat.reduceEqDiff, reduceIte, if_neg, if_pos, gI_ne, gIv 98, w32, gIv 125, wa, wi, hs1, hs2, show (-1 : Int32) = Zi (-1) from rfl, mb1, mb2, show bI false = 0 from rfl, show bI true = 1 from rfl]
                exact nx
              · rw [hb2] at mb2
                have hB : swB d a i := ⟨la, li, le, by rw [hs2, Int.toNat_natCast]; exact hb1, by rw [hs2, hs1, Int.toNat_natCast]; exact hb2⟩
                have hai : a ≠ i := by omega
                have sww := sw_worth hD hCl ha hi' hai hs1 hs2 hB
                rw [pd_t hB, if_pos rfl] at hk
                have w4 := w3.set i s1 (by omega)
                rw [sww.1] at w4
                have ob := hb.dt hD hCl
                have od : ∀ v, CClash v (swD d a i) := fun v => by
                  have C2 : CClash m (sw2 d a i) := (hCl.dn (m' := m) a).dn i
                  have C3 := C2.up (m' := m) a s2 (by rw [q2 _ _ (by omega)]; exact ha) (NC.of_mb hb1)
                  have C4 := C3.up (m' := v) i s1 (by rw [upS_ne _ _ _ (by omega), q2 _ _ (by omega)]; exact hi') (NC.of_mb hb2)
                  rw [sww.1] at C4
                  exact C4
                have D4 : DOk (swD d a i) := (hD.up a (d 125 i) (by omega)).up i (d 125 a) (by omega)
                obtain ⟨y, w5, e1, e2⟩ := judge_s w4 D4 (od _) ob.1 ob.2.2 a i (-1) (by omega) (by omega) (by omega)
                have x4s : ∀ k, k ≠ a → k ≠ i → swD d a i 125 k = d 125 k := fun k ka ki => by unfold swD; rw [upS_eq, if_neg ki, upS_eq, if_neg ka]
                have nx := ih (i + 1) g _ _ (by omega) (by omega) (by omega) (back _ _ _ e2 (fun c k hc => swD_q d a i hc) x4s) (stC_sw hb a i ha hi' hai hB) hk
                simp (disch := omega) only [fX13_trySwaps_10, fX13_trySwaps_69, fX13_trySwaps_79, qbI_s, qbL_s, qbV_s, qbR_s, qbR_n, qbN_s, qbN_n, qbIX_s, qbIX_n, qbVX_s, qbVX_n, cond_true, cond_false, cond_dec, jadd, jsub, jmul, jneg, li_0, li_1, li_2, li_3, li_4, li_5, li_6, li_7, li_8, li_9, li_10, li_14, li_15, li_16, li_19, li_20, li_24, li_30, li_31, li_32, li_39, li_40, li_48, li_57, li_59, li_60, li_63, li_65, li_80, li_81, li_90, li_97, li_99, li_100, li_122, li_126, li_127, li_150, li_160, li_200, li_225, li_255, li_400, li_799, li_800, li_999, li_2400, li_3239, li_3240, li_1048575, li_1431655765, li_858993459, li_252645135, eqb_j, ltb_j, leb_j, inb_j, ix_j, ix_n, nz_b, nz_0, nz_1, eqb_b, bnot, vI_ne, vI_eq, gIL, gLI, gIR, gRI, gLR, gRL, Int.reduceLT, Int.reduceLE, Int.reduceEq, Int.reduceAdd, Int.reduceSub, Int.reduceMul, Int.reduceNeg, Int.reduceToNat, Nat.reduceEqDiff, reduceIte, if_neg, if_pos, gI_ne, gIv 98, w32, gIv 125, wa, wi, hs1, hs2, show (-1 : Int32) = Zi (-1) from rfl, mb1, mb2, show bI true = 1 from rfl, e1]
                exact nx
  have key2 : ∀ (r a g : Nat) (w : qM) (b : Cs), a + r = (d 98 32).toNat → r < g → MCt m0 d b w → cOK d b → wp (fX13_trySwaps_2 g (Zi a) w) (fun _ m' => MCt m0 d (swO d (d 98 32).toNat r a b) m') := by
    intro r
    induction r with
    | zero =>
      intro i g w b hi hg hw hb
      obtain ⟨g, rfl⟩ : ∃ g', g = g' + 1 := ⟨g - 1, by omega⟩
      have w32 := hw.1 98 32 (by unfold dP; omega)
      refine wp_e (x := ()) (m := w) ?_ hw
      simp (disch := omega) only [fX13_trySwaps_2, qbI_s, qbL_s, qbV_s, qbR_s, qbR_n, qbN_s, qbN_n, qbIX_s, qbIX_n, qbVX_s, qbVX_n, cond_true, cond_false, cond_dec, jadd, jsub, jmul, jneg, li_0, li_1, li_2, li_3, li_4, li_5, li_6, li_7, li_8, li_9, li_10, li_14, li_15, li_16, li_19, li_20, li_24, li_30, li_31, li_32, li_39, li_40, li_48, li_57, li_59, li_60, li_63, li_65, li_80, li_81, li_90, li_97, li_99, li_100, li_122, li_126, li_127, li_150, li_160, li_200, li_225, li_255, li_400, li_799, li_800, li_999, li_2400, li_3239, li_3240, li_1048575, li_1431655765, li_858993459, li_252645135, eqb_j, ltb_j, leb_j, inb_j, ix_j, ix_n, nz_b, nz_0, nz_1, eqb_b, bnot, vI_ne, vI_eq, gIL, gLI, gIR, gRI, gLR, gRL, Int.reduceLT, Int.reduceLE, Int.reduceEq, Int.reduceAdd, Int.reduceSub, Int.reduceMul, Int.reduceNeg, Int.reduceToNat, Nat.reduceEqDiff, reduceIte, if_neg, if_pos, gI_ne, gIv 98, w32]
    | succ r ih =>
      intro a g w b hi hg hw hb
      obtain ⟨g, rfl⟩ : ∃ g', g = g' + 1 := ⟨g - 1, by omega⟩
      have w32 := hw.1 98 32 (by unfold dP; omega)
      rw [swO]
      have k10 := key10 (fX13_trySwaps_2 g) (fun _ m' => MCt m0 d (swO d (d 98 32).toNat r (a + 1) (swI d a ((d 98 32).toNat - (a + 1)) (a + 1) b)) m') a (by omega) ((d 98 32).toNat - (a + 1)) (a + 1) FU w b (by omega) (by omega) (by rw [FU_d]; omega) hw hb (fun w' h1 => ih (a + 1) g w' _ (by omega) (by omega) h1 (swI_ok a (by omega) _ (a + 1) b (by omega) (by omega) hb))
      simp (disch := omega) only [fX13_trySwaps_2, qbI_s, qbL_s, qbV_s, qbR_s, qbR_n, qbN_s, qbN_n, qbIX_s, qbIX_n, qbVX_s, qbVX_n, cond_true, cond_false, cond_dec, jadd, jsub, jmul, jneg, li_0, li_1, li_2, li_3, li_4, li_5, li_6, li_7, li_8, li_9, li_10, li_14, li_15, li_16, li_19, li_20, li_24, li_30, li_31, li_32, li_39, li_40, li_48, li_57, li_59, li_60, li_63, li_65, li_80, li_81, li_90, li_97, li_99, li_100, li_122, li_126, li_127, li_150, li_160, li_200, li_225, li_255, li_400, li_799, li_800, li_999, li_2400, li_3239, li_3240, li_1048575, li_1431655765, li_858993459, li_252645135, eqb_j, ltb_j, leb_j, inb_j, ix_j, ix_n, nz_b, nz_0, nz_1, eqb_b, bnot, vI_ne, vI_eq, gIL, gLI, gIR, gRI, gLR, gRL, Int.reduceLT, Int.reduceLE, Int.reduceEq, Int.reduceAdd, Int.reduceSub, Int.reduceMul, Int.reduceNeg, Int.reduceToNat, Nat.reduceEqDiff, reduceIte, if_neg, if_pos, gI_ne, gIv 98, w32]
      exact k10
  rw [fX13_trySwaps_d]
  simp only [fX13_trySwaps_0]
  exact key2 (d 98 32).toNat 0 FU m b (by omega) (by rw [FU_d]; omega) h hb
noncomputable def setD : Nat → Dt → Nat × Dt
  | 0, d => (0, d)
  | r + 1, d => if wD d < (passC d).1 then ((setD r (passC d).2.1).1 + 1, (setD r (passC d).2.1).2) else (0, d)
theorem setD_le : ∀ r d, (setD r d).1 ≤ r
  | 0, d => Nat.le_refl _
  | r + 1, d => by
    rw [setD]
    have := setD_le r (passC d).2.1
    split
    · show (setD r (passC d).2.1).1 + 1 ≤ r + 1
      omega
    · exact Nat.zero_le _
theorem passC_no {d : Dt} (hD : DOk d) (h : ¬ wD d < (passC d).1) : passC d = (wD d, d, -1, -1, -1) := (passC_ok hD).resolve_right fun z => h z.1
theorem settleC (m0 : qM) : ∀ (r i g : Nat) (m : qM) (d : Dt), i + r = 30 → r < g → CAll m d → SF m0 m → wp (fX11_settle_7 fX11_settle_16 g (Zi i) m) (fun x m' => x = Zi ((i + (setD r d).1 : Nat)) ∧ CAll m' (setD r d).2 ∧ SF m0 m') := by
  intro r
  induction r with
  | zero =>
    intro i g m d hi hg hC hF
    obtain ⟨g, rfl⟩ : ∃ g', g = g' + 1 := ⟨g - 1, by omega⟩
    refine wp_e (x := Zi i) (m := m) ?_ ⟨rfl, hC, hF⟩
    simp (disch := omega) only [fX11_settle_7, fX11_settle_16, qbI_s, qbL_s, qbV_s, qbR_s, qbR_n, qbN_s, qbN_n, qbIX_s, qbIX_n, qbVX_s, qbVX_n, cond_true, cond_false, cond_dec, jadd, jsub, jmul, jneg, li_0, li_1, li_2, li_3, li_4, li_5, li_6, li_7, li_8, li_9, li_10, li_14, li_15, li_16, li_19, li_20, li_24, li_30, li_31, li_32, li_39, li_40, li_48, li_57, li_59, li_60, li_63, li_65, li_80, li_81, li_90, li_97, li_99, li_100, li_122, li_126, li_127, li_150, li_160, li_200, li_225, li_255, li_400, li_799, li_800, li_999, li_2400, li_3239, li_3240, li_1048575, li_1431655765, li_858993459, li_252645135, eqb_j, ltb_j, leb_j, inb_j, ix_j, ix_n, nz_b, nz_0, nz_1, eqb_b, bnot, vI_ne, vI_eq, gIL, gLI, gIR, gRI, gLR, gRL, Int.reduceLT, Int.reduceLE, Int.reduceEq, Int.reduceAdd, Int.reduceSub, Int.reduceMul, Int.reduceNeg, Int.reduceToNat, Nat.reduceEqDiff, reduceIte, if_neg, if_pos, gI_ne]
  | succ r ih =>
    intro i g m d hi hg hC hF
    obtain ⟨g, rfl⟩ : ∃ g', g = g' + 1 := ⟨g - 1, by omega⟩
    have hD := DOk.of hC
    obtain ⟨x, m1, e1, e2, e3, e4⟩ := changeOnce_s m d hC
    rw [e2] at e1
    rw [setD]
    by_cases c : wD d < (passC d).1
    · rw [decide_eq_true c] at e1
      rw [if_pos c]
      have nx := ih (i + 1) g m1 _ (by omega) (by omega) e3 (hF.tr e4)
      rw [show i + 1 + (setD r (passC d).2.1).1 = i + ((setD r (passC d).2.1).1 + 1) by omega] at nx
      simp (disch := omega) only [fX11_settle_7, qbI_s, qbL_s, qbV_s, qbR_s, qbR_n, qbN_s, qbN_n, qbIX_s, qbIX_n, qbVX_s, qbVX_n, cond_true, cond_false, cond_dec, jadd, jsub, jmul, jneg, li_0, li_1, li_2, li_3, li_4, li_5, li_6, li_7, li_8, li_9, li_10, li_14, li_15, li_16, li_19, li_20, li_24, li_30, li_31, li_32, li_39, li_40, li_48, li_57, li_59, li_60, li_63, li_65, li_80, li_81, li_90, li_97, li_99, li_100, li_122, li_126, li_127, li_150, li_160, li_200, li_225, li_255, li_400, li_799, li_800, li_999, li_2400, li_3239, li_3240, li_1048575, li_1431655765, li_858993459, li_252645135, eqb_j, ltb_j, leb_j, inb_j, ix_j, ix_n, nz_b, nz_0, nz_1, eqb_b, bnot, vI_ne, vI_eq, gIL, gLI, gIR, gRI, gLR, gRL, Int.reduceLT, Int.reduceLE, Int.reduceEq, Int.reduceAdd, Int.reduceSub, Int.reduceMul, Int.reduceNeg, Int.reduceToNat, Nat.reduceEqDiff, reduceIte, if_neg, if_pos, gI_ne, e1, show bI true = 1 from rfl]
      exact nx
    · rw [decide_eq_false c] at e1
      rw [if_neg c]
      have e3' : CAll m1 d := by rw [passC_no hD c] at e3; exact e3
      refine wp_e (x := Zi i) (m := m1) ?_ ⟨rfl, e3', hF.tr e4⟩
      simp (disch := omega) only [fX11_settle_7, fX11_settle_16, qbI_s, qbL_s, qbV_s, qbR_s, qbR_n, qbN_s, qbN_n, qbIX_s, qbIX_n, qbVX_s, qbVX_n, cond_true, cond_false, cond_dec, jadd, jsub, jmul, jneg, li_0, li_1, li_2, li_3, li_4, li_5, li_6, li_7, li_8, li_9, li_10, li_14, li_15, li_16, li_19, li_20, li_24, li_30, li_31, li_32, li_39, li_40, li_48, li_57, li_59, li_60, li_63, li_65, li_80, li_81, li_90, li_97, li_99, li_100, li_122, li_126, li_127, li_150, li_160, li_200, li_225, li_255, li_400, li_799, li_800, li_999, li_2400, li_3239, li_3240, li_1048575, li_1431655765, li_858993459, li_252645135, eqb_j, ltb_j, leb_j, inb_j, ix_j, ix_n, nz_b, nz_0, nz_1, eqb_b, bnot, vI_ne, vI_eq, gIL, gLI, gIR, gRI, gLR, gRL, Int.reduceLT, Int.reduceLE, Int.reduceEq, Int.reduceAdd, Int.reduceSub, Int.reduceMul, Int.reduceNeg, Int.reduceToNat, Nat.reduceEqDiff, reduceIte, if_neg, if_pos, gI_ne, e1, show bI false = 0 from rfl]
theorem settleM (m0 : qM) : ∀ (r i g : Nat) (m : qM) (d : Dt), i + r = 30 → r < g → DOk d → CClash m d → (∀ c k, dP c k → vI m c k = d c k) → Fr (fun c k => c = 125 ∨ c = 127 ∨ c = 128 ∨ c = 98 ∧ 47 ≤ k ∧ k ≤ 49) m0 m → wp (fX13_settle_7 g (Zi i) m) (fun x m' => x = Zi ((i + (setD r d).1 : Nat)) ∧ (∀ c k, dP c k → vI m' c k = (setD r d).2 c k) ∧ Fr (fun c k => c = 125 ∨ c = 127 ∨ c = 128 ∨ c = 98 ∧ 47 ≤ k ∧ k ≤ 49) m0 m') := by
  intro r
  induction r with
  | zero =>
    intro i g m d hi hg hD hCl hq hF
    obtain ⟨g, rfl⟩ : ∃ g', g = g' + 1 := ⟨g - 1, by omega⟩
    refine wp_e (x := Zi i) (m := m) ?_ ⟨rfl, hq, hF⟩
    simp (disch := omega) only [fX13_settle_7, qbI_s, qbL_s, qbV_s, qbR_s, qbR_n, qbN_s, qbN_n, qbIX_s, qbIX_n, qbVX_s, qbVX_n, cond_true, cond_false, cond_dec, jadd, jsub, jmul, jneg, li_0, li_1, li_2, li_3, li_4, li_5, li_6, li_7, li_8, li_9, li_10, li_14, li_15, li_16, li_19, li_20, li_24, li_30, li_31, li_32, li_39, li_40, li_48, li_57, li_59, li_60, li_63, li_65, li_80, li_81, li_90, li_97, li_99, li_100, li_122, li_126, li_127, li_150, li_160, li_200, li_225, li_255, li_400, li_799, li_800, li_999, li_2400, li_3239, li_3240, li_1048575, li_1431655765, li_858993459, li_252645135, eqb_j, ltb_j, leb_j, inb_j, ix_j, ix_n, nz_b, nz_0, nz_1, eqb_b, bnot, vI_ne, vI_eq, gIL, gLI, gIR, gRI, gLR, gRL, Int.reduceLT, Int.reduceLE, Int.reduceEq, Int.reduceAdd, Int.reduceSub, Int.reduceMul, Int.reduceNeg, Int.reduceToNat, Nat.reduceEqDiff, reduceIte, if_neg, if_pos, gI_ne]
  | succ r ih =>
    intro i g m d hi hg hD hCl hq hF
    obtain ⟨g, rfl⟩ : ∃ g', g = g' + 1 := ⟨g - 1, by omega⟩
    have n1 := hD.2.2.2.2.1
    have n2 := hD.2.2.2.2.2.1
    obtain ⟨y1, m1, e1, k1, f1⟩ := valNow_s m d hD hCl hq
    obtain ⟨y2, m2, e2, k2, f2⟩ := keepVal_s m1
    have M3 : MCt m0 d (wD d, d, -1, -1, -1) (sI m2 98 47 (Zi (-1))) := ⟨fun c k hc => by
      have hc' : c = 98 ∧ k = 32 ∨ c = 99 ∨ 112 ≤ c ∧ c ≤ 126 := hc
      rw [vI_of (show gI (sI m2 98 47 (Zi (-1))) c k = gI m2 c k by rw [gI_sI, if_neg (by omega)]), f2.v c k (by omega), f1.v c k (by omega)]
      exact hq c k hc, fun k hk => by rw [vI_ne (by omega), k2 k hk]; exact k1 k hk, by simp (disch := omega) only [qbI_s, qbL_s, qbV_s, qbR_s, qbR_n, qbN_s, qbN_n, qbIX_s, qbIX_n, qbVX_s, qbVX_n, cond_true, cond_false, cond_dec, jadd, jsub, jmul, jneg, li_0, li_1, li_2, li_3, li_4, li_5, li_6, li_7, li_8, li_9, li_10, li_14, li_15, li_16, li_19, li_20, li_24, li_30, li_31, li_32, li_39, li_40, li_48, li_57, li_59, li_60, li_63, li_65, li_80, li_81, li_90, li_97, li_99, li_100, li_122, li_126, li_127, li_150, li_160, li_200, li_225, li_255, li_400, li_799, li_800, li_999, li_2400, li_3239, li_3240, li_1048575, li_1431655765, li_858993459, li_252645135, eqb_j, ltb_j, leb_j, inb_j, ix_j, ix_n, nz_b, nz_0, nz_1, eqb_b, bnot, vI_ne, vI_eq, gIL, gLI, gIR, gRI, gLR, gRL, Int.reduceLT, Int.reduceLE, Int.reduceEq, Int.reduceAdd, Int.reduceSub, Int.reduceMul, Int.reduceNeg, Int.reduceToNat, Nat.reduceEqDiff, reduceIte, if_neg, if_pos, gI_ne], fun z => absurd rfl z, ((hF.tr (f1.wide (fun c k hc => by omega))).tr (f2.wide (fun c k hc => by omega))).wI 98 47 _ (by omega)⟩
    have o0 : cOK d (wD d, d, -1, -1, -1) := Or.inl rfl
    obtain ⟨y4, m4, e4, M4⟩ := tryMoves_s false m0 _ d _ hD (hCl.mono (m' := sI m2 98 47 (Zi (-1))) (fun _ _ _ => rfl)) o0 M3
    have o1 : cOK d (mvA d false (d 98 32).toNat 0 (wD d, d, -1, -1, -1)) := mvA_ok false _ 0 _ (by omega) o0
    obtain ⟨y5, m5, e5, M5⟩ := tryMoves_s true m0 m4 d _ hD (hCl.mono (m' := m4) (fun _ _ _ => rfl)) o1 M4
    have o2 := mvA_ok (d := d) true (d 98 32).toNat 0 _ (by omega) o1
    obtain ⟨y6, m6, e6, M6⟩ := trySwaps_s m0 m5 d _ hD (hCl.mono (m' := m5) (fun _ _ _ => rfl)) o2 M5
    have M6' : MCt m0 d (passC d) m6 := M6
    have e4' : fX13_tryMoves (Zi 0) (sI m2 98 47 (Zi (-1))) = some (y4, m4) := e4
    have e5' : fX13_tryMoves (Zi 1) m4 = some (y5, m5) := e5
    have o3 := passC_ok hD
    have cl6 : CClash m6 d := hCl.mono (fun _ _ _ => rfl)
    have od := o3.dt hD cl6
    rw [setD]
    by_cases c : wD d < (passC d).1
    · rw [if_pos c]
      have ho := (o3.resolve_left (fun z => by rw [z] at c; exact absurd c (by show ¬ wD d < wD d; omega))).2
      generalize passC d = b at *
      obtain ⟨g1, g2, g3, g4, g5⟩ := M6'
      rcases ho with ho | ho
      · obtain ⟨a, s, h1, h2, h3, h4⟩ := ho
        have b2 : b.2.1 = upS d a s := by rw [h4]
        have g3' : vI m6 98 47 = a := by rw [h4] at g3; exact g3
        have g48 := g4 (by rw [h4]; show (a : Int) ≠ -1; omega)
        have g48' : vI m6 98 48 = -1 := by rw [h4] at g48; exact g48.1
        have g49' : vI m6 98 49 = s := by rw [h4] at g48; exact g48.2 rfl
        have M7 := MCt.set ⟨g1, g2, g3, g4, g5⟩ a s (by omega)
        rw [b2] at od ⊢
        have nx := ih (i + 1) g _ _ (by omega) (by omega) od.1 (od.2.1.mono (fun _ _ _ => rfl)) M7.1 M7.2.2.2.2
        rw [show i + 1 + (setD r (upS d a s)).1 = i + ((setD r (upS d a s)).1 + 1) by omega] at nx
        simp (disch := omega) only [fX13_settle_7, fX13_settle_65, qbI_s, qbL_s, qbV_s, qbR_s, qbR_n, qbN_s, qbN_n, qbIX_s, qbIX_n, qbVX_s, qbVX_n, cond_true, cond_false, cond_dec, jadd, jsub, jmul, jneg, li_0, li_1, li_2, li_3, li_4, li_5, li_6, li_7, li_8, li_9, li_10, li_14, li_15, li_16, li_19, li_20, li_24, li_30, li_31, li_32, li_39, li_40, li_48, li_57, li_59, li_60, li_63, li_65, li_80, li_81, li_90, li_97, li_99, li_100, li_122, li_126, li_127, li_150, li_160, li_200, li_225, li_255, li_400, li_799, li_800, li_999, li_2400, li_3239, li_3240, li_1048575, li_1431655765, li_858993459, li_252645135, eqb_j, ltb_j, leb_j, inb_j, ix_j, ix_n, nz_b, nz_0, nz_1, eqb_b, bnot, vI_ne, vI_eq, gIL, gLI, gIR, gRI, gLR, gRL, Int.reduceLT, Int.reduceLE, Int.reduceEq, Int.reduceAdd, Int.reduceSub, Int.reduceMul, Int.reduceNeg, Int.reduceToNat, Nat.reduceEqDiff, reduceIte, if_neg, if_pos, gI_ne, e1, e2, show (-1 : Int32) = Zi (-1) from rfl, e4', e5', e6, gIv 98, g3', g48', g49']
        exact nx
      · obtain ⟨a, j, h1, h2, h3, hB, h4⟩ := ho
        have b2 : b.2.1 = swD d a j := by rw [h4]
        have ra := (hD.2.2.2.2.2.2 a h1).2.2.2
        have rj := (hD.2.2.2.2.2.2 j h2).2.2.2
        have g3' : vI m6 98 47 = a := by rw [h4] at g3; exact g3
        have g48 := g4 (by rw [h4]; show (a : Int) ≠ -1; omega)
        have g48' : vI m6 98 48 = j := by rw [h4] at g48; exact g48.1
        have M7 := MCt.set ⟨g1, g2, g3, g4, g5⟩ a (d 125 j) (by omega)
        have M8 := MCt.set M7 j (d 125 a) (by omega)
        have M8' : MCt m0 (swD d a j) b (sI (sI m6 125 a (Zi (d 125 j))) 125 j (Zi (d 125 a))) := M8
        have g5a := g1 125 a (by unfold dP; omega)
        have g5j := g1 125 j (by unfold dP; omega)
        rw [b2] at od ⊢
        have nx := ih (i + 1) g _ _ (by omega) (by omega) od.1 (od.2.1.mono (fun _ _ _ => rfl)) M8'.1 M8'.2.2.2.2
        rw [show i + 1 + (setD r (swD d a j)).1 = i + ((setD r (swD d a j)).1 + 1) by omega] at nx
        simp (disch := omega) only [fX13_settle_7, fX13_settle_65, qbI_s, qbL_s, qbV_s, qbR_s, qbR_n, qbN_s, qbN_n, qbIX_s, qbIX_n, qbVX_s, qbVX_n, cond_true, cond_false, cond_dec, jadd, jsub, jmul, jneg, li_0, li_1, li_2, li_3, li_4, li_5, li_6, li_7, li_8, li_9, li_10, li_14, li_15, li_16, li_19, li_20, li_24, li_30, li_31, li_32, li_39, li_40, li_48, li_57, li_59, li_60, li_63, li_65, li_80, li_81, li_90, li_97, li_99, li_100, li_122, li_126, li_127, li_150, li_160, li_200, li_225, li_255, li_400, li_799, li_800, li_999, li_2400, li_3239, li_3240, li_1048575, li_1431655765, li_858993459, li_252645135, eqb_j, ltb_j, leb_j, inb_j, ix_j, ix_n, nz_b, nz_0, nz_1, eqb_b, bnot, vI_ne, vI_eq, gIL, gLI, gIR, gRI, gLR, gRL, Int.reduceLT, Int.reduceLE, Int.reduceEq, Int.reduceAdd, Int.reduceSub, Int.reduceMul, Int.reduceNeg, Int.reduceToNat, Nat.reduceEqDiff, reduceIte, if_neg, if_pos, gI_ne, e1, e2, show (-1 : Int32) = Zi (-1) from rfl, e4', e5', e6, gIv 98, g3', g48', gIv 125, g5a, g5j]
        exact nx
    · rw [if_neg c]
      have hp := passC_no hD c
      rw [hp] at M6'
      have g3 : vI m6 98 47 = -1 := M6'.2.2.1
      refine wp_e (x := Zi i) (m := m6) ?_ ⟨rfl, M6'.1, M6'.2.2.2.2⟩
      simp (disch := omega) only [fX13_settle_7, qbI_s, qbL_s, qbV_s, qbR_s, qbR_n, qbN_s, qbN_n, qbIX_s, qbIX_n, qbVX_s, qbVX_n, cond_true, cond_false, cond_dec, jadd, jsub, jmul, jneg, li_0, li_1, li_2, li_3, li_4, li_5, li_6, li_7, li_8, li_9, li_10, li_14, li_15, li_16, li_19, li_20, li_24, li_30, li_31, li_32, li_39, li_40, li_48, li_57, li_59, li_60, li_63, li_65, li_80, li_81, li_90, li_97, li_99, li_100, li_122, li_126, li_127, li_150, li_160, li_200, li_225, li_255, li_400, li_799, li_800, li_999, li_2400, li_3239, li_3240, li_1048575, li_1431655765, li_858993459, li_252645135, eqb_j, ltb_j, leb_j, inb_j, ix_j, ix_n, nz_b, nz_0, nz_1, eqb_b, bnot, vI_ne, vI_eq, gIL, gLI, gIR, gRI, gLR, gRL, Int.reduceLT, Int.reduceLE, Int.reduceEq, Int.reduceAdd, Int.reduceSub, Int.reduceMul, Int.reduceNeg, Int.reduceToNat, Nat.reduceEqDiff, reduceIte, if_neg, if_pos, gI_ne, e1, e2, show (-1 : Int32) = Zi (-1) from rfl, e4', e5', e6, gIv 98, g3]
theorem op_settle (m : qM) (hR : R0 m) : QOp m fX11_settle fX13_settle := by
  have hR' := hR
  obtain ⟨⟨hT, hRd, hRu, hFo, hHa⟩, ⟨hPt, hPf, hAp, hWk⟩, ⟨hAs, hPa, hCl, hDi, hBi, hCn⟩, ⟨hTe, hBe, hNo, hPo⟩⟩ := hR'
  have b1 := hBe.1
  by_cases hg : vI m 98 33 = 0
  · have hC := CAll.of hR
    obtain ⟨x, m1, e1, e2, e3, e4⟩ := settleC m 30 0 FU m (vI m) (by omega) (by rw [FU_d]; omega) hC (SF.rf m)
    have q1 : ∀ c k, ¬ (c = 58 ∧ 13 ≤ k ∧ k ≤ 16 ∨ c = 62 ∨ 64 ≤ c ∧ c ≤ 67 ∨ c = 68 ∧ 10 ≤ k ∧ k ≤ 12) → vI m1 c k = vI m c k := fun c k hc => vI_of (e4.1 c k hc)
    obtain ⟨y, m2, g1, g2, g3, g4⟩ := settleM m1 30 0 FU m1 (vI m) (by omega) (by rw [FU_d]; omega) (DOk.of hC) (hC.2.2.2.2.2.2.2.1.mono (fun _ _ _ => rfl)) (fun c k hc => q1 c k (by unfold dP at hc; omega)) (Fr.rf m1)
    have q2 : ∀ c k, ¬ (c = 125 ∨ c = 127 ∨ c = 128 ∨ c = 98 ∧ 47 ≤ k ∧ k ≤ 49) → gI m2 c k = gI m1 c k := g4.1
    have hC2 : CAll m2 (vI m2) := e3.congr (fun c k hc => q2 c k (by omega)) g3
    have e1' : fX11_settle_7 fX11_settle_16 FU (Zi 0) m = some (x, m1) := e1
    have g1' : fX13_settle_7 FU (Zi 0) m1 = some (y, m2) := g1
    have m33 := (q1 98 33 (by omega)).trans hg
    refine QOp.ok (x := x) (y := y) (m1 := m1) (m2 := m2) ?_ ?_ (e2.trans g2.symm) (R0.of_C hR (fun c k hc => (q2 c k (by omega)).trans (e4.1 c k (by omega))) (g4.2.2.trans e4.2) hC2) (Or.inl fun j hj => ?_)
    · rw [fX11_settle_d]
      simp (disch := omega) only [fX11_settle_0, qbI_s, qbL_s, qbV_s, qbR_s, qbR_n, qbN_s, qbN_n, qbIX_s, qbIX_n, qbVX_s, qbVX_n, cond_true, cond_false, cond_dec, jadd, jsub, jmul, jneg, li_0, li_1, li_2, li_3, li_4, li_5, li_6, li_7, li_8, li_9, li_10, li_14, li_15, li_16, li_19, li_20, li_24, li_30, li_31, li_32, li_39, li_40, li_48, li_57, li_59, li_60, li_63, li_65, li_80, li_81, li_90, li_97, li_99, li_100, li_122, li_126, li_127, li_150, li_160, li_200, li_225, li_255, li_400, li_799, li_800, li_999, li_2400, li_3239, li_3240, li_1048575, li_1431655765, li_858993459, li_252645135, eqb_j, ltb_j, leb_j, inb_j, ix_j, ix_n, nz_b, nz_0, nz_1, eqb_b, bnot, vI_ne, vI_eq, gIL, gLI, gIR, gRI, gLR, gRL, Int.reduceLT, Int.reduceLE, Int.reduceEq, Int.reduceAdd, Int.reduceSub, Int.reduceMul, Int.reduceNeg, Int.reduceToNat, Nat.reduceEqDiff, reduceIte, if_neg, if_pos, gI_ne, gIv 0, b1, hg, e1']
    · rw [fX13_settle_d]
      simp (disch := omega) only [fX13_settle_0, qbI_s, qbL_s, qbV_s, qbR_s, qbR_n, qbN_s, qbN_n, qbIX_s, qbIX_n, qbVX_s, qbVX_n, cond_true, cond_false, cond_dec, jadd, jsub, jmul, jneg, li_0, li_1, li_2, li_3, li_4, li_5, li_6, li_7, li_8, li_9, li_10, li_14, li_15, li_16, li_19, li_20, li_24, li_30, li_31, li_32, li_39, li_40, li_48, li_57, li_59, li_60, li_63, li_65, li_80, li_81, li_90, li_97, li_99, li_100, li_122, li_126, li_127, li_150, li_160, li_200, li_225, li_255, li_400, li_799, li_800, li_999, li_2400, li_3239, li_3240, li_1048575, li_1431655765, li_858993459, li_252645135, eqb_j, ltb_j, leb_j, inb_j, ix_j, ix_n, nz_b, nz_0, nz_1, eqb_b, bnot, vI_ne, vI_eq, gIL, gLI, gIR, gRI, gLR, gRL, Int.reduceLT, Int.reduceLE, Int.reduceEq, Int.reduceAdd, Int.reduceSub, Int.reduceMul, Int.reduceNeg, Int.reduceToNat, Nat.reduceEqDiff, reduceIte, if_neg, if_pos, gI_ne, gIv 98, m33, g1']
    · rw [vI_of (q2 83 j (by omega)), q1 83 j (by omega)]
      exact (hBe.2.2 hg).2 j hj
  · have b2 := hBe.2.1
    refine QOp.same (x := Zi (-4)) hR ?_ ?_
    · rw [fX11_settle_d]
      simp (disch := omega) only [fX11_settle_0, qbI_s, qbL_s, qbV_s, qbR_s, qbR_n, qbN_s, qbN_n, qbIX_s, qbIX_n, qbVX_s, qbVX_n, cond_true, cond_false, cond_dec, jadd, jsub, jmul, jneg, li_0, li_1, li_2, li_3, li_4, li_5, li_6, li_7, li_8, li_9, li_10, li_14, li_15, li_16, li_19, li_20, li_24, li_30, li_31, li_32, li_39, li_40, li_48, li_57, li_59, li_60, li_63, li_65, li_80, li_81, li_90, li_97, li_99, li_100, li_122, li_126, li_127, li_150, li_160, li_200, li_225, li_255, li_400, li_799, li_800, li_999, li_2400, li_3239, li_3240, li_1048575, li_1431655765, li_858993459, li_252645135, eqb_j, ltb_j, leb_j, inb_j, ix_j, ix_n, nz_b, nz_0, nz_1, eqb_b, bnot, vI_ne, vI_eq, gIL, gLI, gIR, gRI, gLR, gRL, Int.reduceLT, Int.reduceLE, Int.reduceEq, Int.reduceAdd, Int.reduceSub, Int.reduceMul, Int.reduceNeg, Int.reduceToNat, Nat.reduceEqDiff, reduceIte, if_neg, if_pos, gI_ne, gIv 0, b1]
      all_goals rfl
    · rw [fX13_settle_d]
      simp (disch := omega) only [fX13_settle_0, qbI_s, qbL_s, qbV_s, qbR_s, qbR_n, qbN_s, qbN_n, qbIX_s, qbIX_n, qbVX_s, qbVX_n, cond_true, cond_false, cond_dec, jadd, jsub, jmul, jneg, li_0, li_1, li_2, li_3, li_4, li_5, li_6, li_7, li_8, li_9, li_10, li_14, li_15, li_16, li_19, li_20, li_24, li_30, li_31, li_32, li_39, li_40, li_48, li_57, li_59, li_60, li_63, li_65, li_80, li_81, li_90, li_97, li_99, li_100, li_122, li_126, li_127, li_150, li_160, li_200, li_225, li_255, li_400, li_799, li_800, li_999, li_2400, li_3239, li_3240, li_1048575, li_1431655765, li_858993459, li_252645135, eqb_j, ltb_j, leb_j, inb_j, ix_j, ix_n, nz_b, nz_0, nz_1, eqb_b, bnot, vI_ne, vI_eq, gIL, gLI, gIR, gRI, gLR, gRL, Int.reduceLT, Int.reduceLE, Int.reduceEq, Int.reduceAdd, Int.reduceSub, Int.reduceMul, Int.reduceNeg, Int.reduceToNat, Nat.reduceEqDiff, reduceIte, if_neg, if_pos, gI_ne, gIv 98]
      all_goals rfl
