/-! rooms, plan, the class at the start, the reference at the start (by program in part) -/
theorem ag_fill2 {m : qM} {V : Nat → Nat → Int32} {c d i : Nat} {v v2 : Int32} (h : AG m (upR (upR V c i v) d i v2)) (hcd : ¬ d = c) : AG (sI (sI m c i v) d i v2) (upR (upR V c (i + 1) v) d (i + 1) v2) := fun c' k' => by
  rw [gI_sI, gI_sI, h c' k']
  unfold upR
  repeat' split
  all_goals first | rfl | (exfalso; omega)
theorem lX3_47 (k : Int32 → qM → Option (Unit × qM)) (Q : Unit → qM → Prop) (V : Nat → Nat → Int32) : ∀ (r i g : Nat) (w : qM), i + r = 10 → r < g → gR w 47 3 = some 50 → AG w (upR V 50 i (Zi 1048575)) → (∀ w', AG w' (upR V 50 10 (Zi 1048575)) → gR w' = gR w → wp (k (Zi 0) w') Q) → wp (fX3_init_47 k g (Zi i) w) Q := by
  intro r
  induction r with
  | zero =>
    intro i g w hi hg h0 ha hk
    obtain ⟨g, rfl⟩ : ∃ g', g = g' + 1 := ⟨g - 1, by omega⟩
    have hi' : i = 10 := by omega
    subst hi'
    have := hk w ha rfl
    simp (disch := omega) only [fX3_init_47, qbI_s, qbL_s, qbV_s, qbR_s, qbR_n, qbN_s, qbN_n, qbIX_s, qbIX_n, qbVX_s, qbVX_n, cond_true, cond_false, cond_dec, jadd, jsub, jmul, jneg, li_0, li_1, li_2, li_3, li_4, li_5, li_6, li_7, li_8, li_9, li_10, li_14, li_15, li_16, li_19, li_20, li_24, li_30, li_31, li_32, li_39, li_40, li_48, li_57, li_59, li_60, li_63, li_65, li_80, li_81, li_90, li_97, li_99, li_100, li_122, li_126, li_127, li_150, li_160, li_200, li_225, li_255, li_400, li_799, li_800, li_999, li_2400, li_3239, li_3240, li_1048575, li_1431655765, li_858993459, li_252645135, eqb_j, ltb_j, leb_j, inb_j, ix_j, ix_n, nz_b, nz_0, nz_1, eqb_b, bnot, vI_ne, vI_eq, gIL, gLI, gIR, gRI, gLR, gRL, Int.reduceLT, Int.reduceLE, Int.reduceEq, Int.reduceAdd, Int.reduceSub, Int.reduceMul, Int.reduceNeg, Int.reduceToNat, Nat.reduceEqDiff, reduceIte, if_neg, if_pos, gI_ne]
    exact this
  | succ r ih =>
    intro i g w hi hg h0 ha hk
    obtain ⟨g, rfl⟩ : ∃ g', g = g' + 1 := ⟨g - 1, by omega⟩
    have nx := ih (i + 1) g (sI w 50 i (Zi 1048575)) (by omega) (by omega) (by simp only [gR_sI]; exact h0) (ag_fill ha) (fun w' h1 h2 => hk w' h1 (by rw [h2]; simp only [gR_sI]))
    simp (disch := omega) only [fX3_init_47, qbI_s, qbL_s, qbV_s, qbR_s, qbR_n, qbN_s, qbN_n, qbIX_s, qbIX_n, qbVX_s, qbVX_n, cond_true, cond_false, cond_dec, jadd, jsub, jmul, jneg, li_0, li_1, li_2, li_3, li_4, li_5, li_6, li_7, li_8, li_9, li_10, li_14, li_15, li_16, li_19, li_20, li_24, li_30, li_31, li_32, li_39, li_40, li_48, li_57, li_59, li_60, li_63, li_65, li_80, li_81, li_90, li_97, li_99, li_100, li_122, li_126, li_127, li_150, li_160, li_200, li_225, li_255, li_400, li_799, li_800, li_999, li_2400, li_3239, li_3240, li_1048575, li_1431655765, li_858993459, li_252645135, eqb_j, ltb_j, leb_j, inb_j, ix_j, ix_n, nz_b, nz_0, nz_1, eqb_b, bnot, vI_ne, vI_eq, gIL, gLI, gIR, gRI, gLR, gRL, Int.reduceLT, Int.reduceLE, Int.reduceEq, Int.reduceAdd, Int.reduceSub, Int.reduceMul, Int.reduceNeg, Int.reduceToNat, Nat.reduceEqDiff, reduceIte, if_neg, if_pos, gI_ne, gR_sI, h0, show Nat.beq 50 50 = true from rfl]
    exact nx
theorem lX3_59 (V : Nat → Nat → Int32) : ∀ (r i g : Nat) (w : qM), i + r = 15 → r < g → gR w 47 4 = some 51 → gR w 47 6 = some 53 → AG w (upR (upR V 51 i (Zi 1048575)) 53 i (Zi 1048575)) → wp (fX3_init_59 g (Zi i) w) (fun _ w' => AG w' (upR (upR V 51 15 (Zi 1048575)) 53 15 (Zi 1048575)) ∧ gR w' = gR w) := by
  intro r
  induction r with
  | zero =>
    intro i g w hi hg h0 h1 ha
    obtain ⟨g, rfl⟩ : ∃ g', g = g' + 1 := ⟨g - 1, by omega⟩
    have hi' : i = 15 := by omega
    subst hi'
    refine wp_e (x := ()) (m := w) ?_ ⟨ha, rfl⟩
    simp (disch := omega) only [fX3_init_59, qbI_s, qbL_s, qbV_s, qbR_s, qbR_n, qbN_s, qbN_n, qbIX_s, qbIX_n, qbVX_s, qbVX_n, cond_true, cond_false, cond_dec, jadd, jsub, jmul, jneg, li_0, li_1, li_2, li_3, li_4, li_5, li_6, li_7, li_8, li_9, li_10, li_14, li_15, li_16, li_19, li_20, li_24, li_30, li_31, li_32, li_39, li_40, li_48, li_57, li_59, li_60, li_63, li_65, li_80, li_81, li_90, li_97, li_99, li_100, li_122, li_126, li_127, li_150, li_160, li_200, li_225, li_255, li_400, li_799, li_800, li_999, li_2400, li_3239, li_3240, li_1048575, li_1431655765, li_858993459, li_252645135, eqb_j, ltb_j, leb_j, inb_j, ix_j, ix_n, nz_b, nz_0, nz_1, eqb_b, bnot, vI_ne, vI_eq, gIL, gLI, gIR, gRI, gLR, gRL, Int.reduceLT, Int.reduceLE, Int.reduceEq, Int.reduceAdd, Int.reduceSub, Int.reduceMul, Int.reduceNeg, Int.reduceToNat, Nat.reduceEqDiff, reduceIte, if_neg, if_pos, gI_ne]
  | succ r ih =>
    intro i g w hi hg h0 h1 ha
    obtain ⟨g, rfl⟩ : ∃ g', g = g' + 1 := ⟨g - 1, by omega⟩
    obtain ⟨x, m', e1, e2, e3⟩ := ih (i + 1) g (sI (sI w 51 i (Zi 1048575)) 53 i (Zi 1048575)) (by omega) (by omega) (by simp only [gR_sI]; exact h0) (by simp only [gR_sI]; exact h1) (ag_fill2 ha (by decide))
    refine wp_e (x := x) (m := m') ?_ ⟨e2, by rw [e3]; simp only [gR_sI]⟩
    simp (disch := omega) only [fX3_init_59, qbI_s, qbL_s, qbV_s, qbR_s, qbR_n, qbN_s, qbN_n, qbIX_s, qbIX_n, qbVX_s, qbVX_n, cond_true, cond_false, cond_dec, jadd, jsub, jmul, jneg, li_0, li_1, li_2, li_3, li_4, li_5, li_6, li_7, li_8, li_9, li_10, li_14, li_15, li_16, li_19, li_20, li_24, li_30, li_31, li_32, li_39, li_40, li_48, li_57, li_59, li_60, li_63, li_65, li_80, li_81, li_90, li_97, li_99, li_100, li_122, li_126, li_127, li_150, li_160, li_200, li_225, li_255, li_400, li_799, li_800, li_999, li_2400, li_3239, li_3240, li_1048575, li_1431655765, li_858993459, li_252645135, eqb_j, ltb_j, leb_j, inb_j, ix_j, ix_n, nz_b, nz_0, nz_1, eqb_b, bnot, vI_ne, vI_eq, gIL, gLI, gIR, gRI, gLR, gRL, Int.reduceLT, Int.reduceLE, Int.reduceEq, Int.reduceAdd, Int.reduceSub, Int.reduceMul, Int.reduceNeg, Int.reduceToNat, Nat.reduceEqDiff, reduceIte, if_neg, if_pos, gI_ne, gR_sI, h0, h1, show Nat.beq 51 51 = true from rfl, show Nat.beq 53 53 = true from rfl]
    exact e1
theorem lX4_64 (k : Int32 → qM → Option (Unit × qM)) (Q : Unit → qM → Prop) (V : Nat → Nat → Int32) : ∀ (r i g : Nat) (w : qM), i + r = 150 → r < g → gR w 58 6 = some 63 → AG w (upR V 63 i (Zi (-1))) → (∀ w', AG w' (upR V 63 150 (Zi (-1))) → gR w' = gR w → wp (k (Zi 0) w') Q) → wp (fX4_init_64 k g (Zi i) w) Q := by
  intro r
  induction r with
  | zero =>
    intro i g w hi hg h0 ha hk
    obtain ⟨g, rfl⟩ : ∃ g', g = g' + 1 := ⟨g - 1, by omega⟩
    have hi' : i = 150 := by omega
    subst hi'
    have := hk w ha rfl
    simp (disch := omega) only [fX4_init_64, qbI_s, qbL_s, qbV_s, qbR_s, qbR_n, qbN_s, qbN_n, qbIX_s, qbIX_n, qbVX_s, qbVX_n, cond_true, cond_false, cond_dec, jadd, jsub, jmul, jneg, li_0, li_1, li_2, li_3, li_4, li_5, li_6, li_7, li_8, li_9, li_10, li_14, li_15, li_16, li_19, li_20, li_24, li_30, li_31, li_32, li_39, li_40, li_48, li_57, li_59, li_60, li_63, li_65, li_80, li_81, li_90, li_97, li_99, li_100, li_122, li_126, li_127, li_150, li_160, li_200, li_225, li_255, li_400, li_799, li_800, li_999, li_2400, li_3239, li_3240, li_1048575, li_1431655765, li_858993459, li_252645135, eqb_j, ltb_j, leb_j, inb_j, ix_j, ix_n, nz_b, nz_0, nz_1, eqb_b, bnot, vI_ne, vI_eq, gIL, gLI, gIR, gRI, gLR, gRL, Int.reduceLT, Int.reduceLE, Int.reduceEq, Int.reduceAdd, Int.reduceSub, Int.reduceMul, Int.reduceNeg, Int.reduceToNat, Nat.reduceEqDiff, reduceIte, if_neg, if_pos, gI_ne]
    exact this
  | succ r ih =>
    intro i g w hi hg h0 ha hk
    obtain ⟨g, rfl⟩ : ∃ g', g = g' + 1 := ⟨g - 1, by omega⟩
    have nx := ih (i + 1) g (sI w 63 i (Zi (-1))) (by omega) (by omega) (by simp only [gR_sI]; exact h0) (ag_fill ha) (fun w' h1 h2 => hk w' h1 (by rw [h2]; simp only [gR_sI]))
    simp (disch := omega) only [fX4_init_64, qbI_s, qbL_s, qbV_s, qbR_s, qbR_n, qbN_s, qbN_n, qbIX_s, qbIX_n, qbVX_s, qbVX_n, cond_true, cond_false, cond_dec, jadd, jsub, jmul, jneg, li_0, li_1, li_2, li_3, li_4, li_5, li_6, li_7, li_8, li_9, li_10, li_14, li_15, li_16, li_19, li_20, li_24, li_30, li_31, li_32, li_39, li_40, li_48, li_57, li_59, li_60, li_63, li_65, li_80, li_81, li_90, li_97, li_99, li_100, li_122, li_126, li_127, li_150, li_160, li_200, li_225, li_255, li_400, li_799, li_800, li_999, li_2400, li_3239, li_3240, li_1048575, li_1431655765, li_858993459, li_252645135, eqb_j, ltb_j, leb_j, inb_j, ix_j, ix_n, nz_b, nz_0, nz_1, eqb_b, bnot, vI_ne, vI_eq, gIL, gLI, gIR, gRI, gLR, gRL, Int.reduceLT, Int.reduceLE, Int.reduceEq, Int.reduceAdd, Int.reduceSub, Int.reduceMul, Int.reduceNeg, Int.reduceToNat, Nat.reduceEqDiff, reduceIte, if_neg, if_pos, gI_ne, gR_sI, h0, show Nat.beq 63 63 = true from rfl]
    exact nx
theorem lX4_76 (V : Nat → Nat → Int32) : ∀ (r i g : Nat) (w : qM), i + r = 200 → r < g → gR w 58 7 = some 64 → AG w (upR V 64 i (Zi (-1))) → wp (fX4_init_76 g (Zi i) w) (fun _ w' => AG w' (upR V 64 200 (Zi (-1))) ∧ gR w' = gR w) := by
  intro r
  induction r with
  | zero =>
    intro i g w hi hg h0 ha
    obtain ⟨g, rfl⟩ : ∃ g', g = g' + 1 := ⟨g - 1, by omega⟩
    have hi' : i = 200 := by omega
    subst hi'
    refine wp_e (x := ()) (m := w) ?_ ⟨ha, rfl⟩
    simp (disch := omega) only [fX4_init_76, qbI_s, qbL_s, qbV_s, qbR_s, qbR_n, qbN_s, qbN_n, qbIX_s, qbIX_n, qbVX_s, qbVX_n, cond_true, cond_false, cond_dec, jadd, jsub, jmul, jneg, li_0, li_1, li_2, li_3, li_4, li_5, li_6, li_7, li_8, li_9, li_10, li_14, li_15, li_16, li_19, li_20, li_24, li_30, li_31, li_32, li_39, li_40, li_48, li_57, li_59, li_60, li_63, li_65, li_80, li_81, li_90, li_97, li_99, li_100, li_122, li_126, li_127, li_150, li_160, li_200, li_225, li_255, li_400, li_799, li_800, li_999, li_2400, li_3239, li_3240, li_1048575, li_1431655765, li_858993459, li_252645135, eqb_j, ltb_j, leb_j, inb_j, ix_j, ix_n, nz_b, nz_0, nz_1, eqb_b, bnot, vI_ne, vI_eq, gIL, gLI, gIR, gRI, gLR, gRL, Int.reduceLT, Int.reduceLE, Int.reduceEq, Int.reduceAdd, Int.reduceSub, Int.reduceMul, Int.reduceNeg, Int.reduceToNat, Nat.reduceEqDiff, reduceIte, if_neg, if_pos, gI_ne]
  | succ r ih =>
    intro i g w hi hg h0 ha
    obtain ⟨g, rfl⟩ : ∃ g', g = g' + 1 := ⟨g - 1, by omega⟩
    obtain ⟨x, m', e1, e2, e3⟩ := ih (i + 1) g (sI w 64 i (Zi (-1))) (by omega) (by omega) (by simp only [gR_sI]; exact h0) (ag_fill ha)
    refine wp_e (x := x) (m := m') ?_ ⟨e2, by rw [e3]; simp only [gR_sI]⟩
    simp (disch := omega) only [fX4_init_76, qbI_s, qbL_s, qbV_s, qbR_s, qbR_n, qbN_s, qbN_n, qbIX_s, qbIX_n, qbVX_s, qbVX_n, cond_true, cond_false, cond_dec, jadd, jsub, jmul, jneg, li_0, li_1, li_2, li_3, li_4, li_5, li_6, li_7, li_8, li_9, li_10, li_14, li_15, li_16, li_19, li_20, li_24, li_30, li_31, li_32, li_39, li_40, li_48, li_57, li_59, li_60, li_63, li_65, li_80, li_81, li_90, li_97, li_99, li_100, li_122, li_126, li_127, li_150, li_160, li_200, li_225, li_255, li_400, li_799, li_800, li_999, li_2400, li_3239, li_3240, li_1048575, li_1431655765, li_858993459, li_252645135, eqb_j, ltb_j, leb_j, inb_j, ix_j, ix_n, nz_b, nz_0, nz_1, eqb_b, bnot, vI_ne, vI_eq, gIL, gLI, gIR, gRI, gLR, gRL, Int.reduceLT, Int.reduceLE, Int.reduceEq, Int.reduceAdd, Int.reduceSub, Int.reduceMul, Int.reduceNeg, Int.reduceToNat, Nat.reduceEqDiff, reduceIte, if_neg, if_pos, gI_ne, gR_sI, h0, show Nat.beq 64 64 = true from rfl]
    exact e1
theorem lX13_256 (k : Int32 → qM → Option (Unit × qM)) (Q : Unit → qM → Prop) (V : Nat → Nat → Int32) : ∀ (r i g : Nat) (w : qM), i + r = 10 → r < g → gR w 98 24 = some 115 → gR w 98 9 = some 108 → AG w (upR (upR V 115 i (Zi 19)) 108 i (Zi (-1))) → (∀ w', AG w' (upR (upR V 115 10 (Zi 19)) 108 10 (Zi (-1))) → gR w' = gR w → wp (k (Zi 0) w') Q) → wp (fX13_init_256 k g (Zi i) w) Q := by
  intro r
  induction r with
  | zero =>
    intro i g w hi hg h0 h1 ha hk
    obtain ⟨g, rfl⟩ : ∃ g', g = g' + 1 := ⟨g - 1, by omega⟩
    have hi' : i = 10 := by omega
    subst hi'
    have := hk w ha rfl
    simp (disch := omega) only [fX13_init_256, qbI_s, qbL_s, qbV_s, qbR_s, qbR_n, qbN_s, qbN_n, qbIX_s, qbIX_n, qbVX_s, qbVX_n, cond_true, cond_false, cond_dec, jadd, jsub, jmul, jneg, li_0, li_1, li_2, li_3, li_4, li_5, li_6, li_7, li_8, li_9, li_10, li_14, li_15, li_16, li_19, li_20, li_24, li_30, li_31, li_32, li_39, li_40, li_48, li_57, li_59, li_60, li_63, li_65, li_80, li_81, li_90, li_97, li_99, li_100, li_122, li_126, li_127, li_150, li_160, li_200, li_225, li_255, li_400, li_799, li_800, li_999, li_2400, li_3239, li_3240, li_1048575, li_1431655765, li_858993459, li_252645135, eqb_j, ltb_j, leb_j, inb_j, ix_j, ix_n, nz_b, nz_0, nz_1, eqb_b, bnot, vI_ne, vI_eq, gIL, gLI, gIR, gRI, gLR, gRL, Int.reduceLT, Int.reduceLE, Int.reduceEq, Int.reduceAdd, Int.reduceSub, Int.reduceMul, Int.reduceNeg, Int.reduceToNat, Nat.reduceEqDiff, reduceIte, if_neg, if_pos, gI_ne]
    exact this
  | succ r ih =>
    intro i g w hi hg h0 h1 ha hk
    obtain ⟨g, rfl⟩ : ∃ g', g = g' + 1 := ⟨g - 1, by omega⟩
    have nx := ih (i + 1) g (sI (sI w 115 i (Zi 19)) 108 i (Zi (-1))) (by omega) (by omega) (by simp only [gR_sI]; exact h0) (by simp only [gR_sI]; exact h1) (ag_fill2 ha (by decide)) (fun w' h1 h2 => hk w' h1 (by rw [h2]; simp only [gR_sI]))
    simp (disch := omega) only [fX13_init_256, qbI_s, qbL_s, qbV_s, qbR_s, qbR_n, qbN_s, qbN_n, qbIX_s, qbIX_n, qbVX_s, qbVX_n, cond_true, cond_false, cond_dec, jadd, jsub, jmul, jneg, li_0, li_1, li_2, li_3, li_4, li_5, li_6, li_7, li_8, li_9, li_10, li_14, li_15, li_16, li_19, li_20, li_24, li_30, li_31, li_32, li_39, li_40, li_48, li_57, li_59, li_60, li_63, li_65, li_80, li_81, li_90, li_97, li_99, li_100, li_122, li_126, li_127, li_150, li_160, li_200, li_225, li_255, li_400, li_799, li_800, li_999, li_2400, li_3239, li_3240, li_1048575, li_1431655765, li_858993459, li_252645135, eqb_j, ltb_j, leb_j, inb_j, ix_j, ix_n, nz_b, nz_0, nz_1, eqb_b, bnot, vI_ne, vI_eq, gIL, gLI, gIR, gRI, gLR, gRL, Int.reduceLT, Int.reduceLE, Int.reduceEq, Int.reduceAdd, Int.reduceSub, Int.reduceMul, Int.reduceNeg, Int.reduceToNat, Nat.reduceEqDiff, reduceIte, if_neg, if_pos, gI_ne, gR_sI, h0, h1, show Nat.beq 115 115 = true from rfl, show Nat.beq 108 108 = true from rfl]
    exact nx
theorem lX13_273 (V : Nat → Nat → Int32) : ∀ (r i g : Nat) (w : qM), i + r = 15 → r < g → gR w 98 26 = some 117 → gR w 98 29 = some 120 → AG w (upR (upR V 117 i (Zi 19)) 120 i (Zi 19)) → wp (fX13_init_273 g (Zi i) w) (fun _ w' => AG w' (upR (upR V 117 15 (Zi 19)) 120 15 (Zi 19)) ∧ gR w' = gR w) := by
  intro r
  induction r with
  | zero =>
    intro i g w hi hg h0 h1 ha
    obtain ⟨g, rfl⟩ : ∃ g', g = g' + 1 := ⟨g - 1, by omega⟩
    have hi' : i = 15 := by omega
    subst hi'
    refine wp_e (x := ()) (m := w) ?_ ⟨ha, rfl⟩
    simp (disch := omega) only [fX13_init_273, qbI_s, qbL_s, qbV_s, qbR_s, qbR_n, qbN_s, qbN_n, qbIX_s, qbIX_n, qbVX_s, qbVX_n, cond_true, cond_false, cond_dec, jadd, jsub, jmul, jneg, li_0, li_1, li_2, li_3, li_4, li_5, li_6, li_7, li_8, li_9, li_10, li_14, li_15, li_16, li_19, li_20, li_24, li_30, li_31, li_32, li_39, li_40, li_48, li_57, li_59, li_60, li_63, li_65, li_80, li_81, li_90, li_97, li_99, li_100, li_122, li_126, li_127, li_150, li_160, li_200, li_225, li_255, li_400, li_799, li_800, li_999, li_2400, li_3239, li_3240, li_1048575, li_1431655765, li_858993459, li_252645135, eqb_j, ltb_j, leb_j, inb_j, ix_j, ix_n, nz_b, nz_0, nz_1, eqb_b, bnot, vI_ne, vI_eq, gIL, gLI, gIR, gRI, gLR, gRL, Int.reduceLT, Int.reduceLE, Int.reduceEq, Int.reduceAdd, Int.reduceSub, Int.reduceMul, Int.reduceNeg, Int.reduceToNat, Nat.reduceEqDiff, reduceIte, if_neg, if_pos, gI_ne]
  | succ r ih =>
    intro i g w hi hg h0 h1 ha
    obtain ⟨g, rfl⟩ : ∃ g', g = g' + 1 := ⟨g - 1, by omega⟩
    obtain ⟨x, m', e1, e2, e3⟩ := ih (i + 1) g (sI (sI w 117 i (Zi 19)) 120 i (Zi 19)) (by omega) (by omega) (by simp only [gR_sI]; exact h0) (by simp only [gR_sI]; exact h1) (ag_fill2 ha (by decide))
    refine wp_e (x := x) (m := m') ?_ ⟨e2, by rw [e3]; simp only [gR_sI]⟩
    simp (disch := omega) only [fX13_init_273, qbI_s, qbL_s, qbV_s, qbR_s, qbR_n, qbN_s, qbN_n, qbIX_s, qbIX_n, qbVX_s, qbVX_n, cond_true, cond_false, cond_dec, jadd, jsub, jmul, jneg, li_0, li_1, li_2, li_3, li_4, li_5, li_6, li_7, li_8, li_9, li_10, li_14, li_15, li_16, li_19, li_20, li_24, li_30, li_31, li_32, li_39, li_40, li_48, li_57, li_59, li_60, li_63, li_65, li_80, li_81, li_90, li_97, li_99, li_100, li_122, li_126, li_127, li_150, li_160, li_200, li_225, li_255, li_400, li_799, li_800, li_999, li_2400, li_3239, li_3240, li_1048575, li_1431655765, li_858993459, li_252645135, eqb_j, ltb_j, leb_j, inb_j, ix_j, ix_n, nz_b, nz_0, nz_1, eqb_b, bnot, vI_ne, vI_eq, gIL, gLI, gIR, gRI, gLR, gRL, Int.reduceLT, Int.reduceLE, Int.reduceEq, Int.reduceAdd, Int.reduceSub, Int.reduceMul, Int.reduceNeg, Int.reduceToNat, Nat.reduceEqDiff, reduceIte, if_neg, if_pos, gI_ne, gR_sI, h0, h1, show Nat.beq 117 117 = true from rfl, show Nat.beq 120 120 = true from rfl]
    exact e1
theorem cX3_init_s (m : qM) (V : Nat → Nat → Int32) (h : AG m V) (hz : ∀ c k, 47 ≤ c → c ≤ 57 → V c k = 0) : wp (fX3_init m) (fun _ m' => AG m' (upR (upR (upR V 50 10 (Zi 1048575)) 51 15 (Zi 1048575)) 53 15 (Zi 1048575)) ∧ ∀ c k, ¬ (47 ≤ c ∧ c ≤ 57) → gR m' c k = gR m c k) := by
  have a0 : AG (sR (sR (qz (sR (qz (sR (qz (sR (qz (sR (qz (sR (qz (sR (qz (sR (qz (sR (qz (sR (qz m 48) 47 1 (some 48)) 49) 47 2 (some 49)) 50) 47 3 (some 50)) 51) 47 4 (some 51)) 52) 47 5 (some 52)) 53) 47 6 (some 53)) 54) 47 7 (some 54)) 55) 47 8 (some 55)) 56) 47 9 (some 56)) 57) 47 10 (some 57)) 47 0 (some 4)) V := by
    repeat first | exact h | refine ag_sR ?_ | refine ag_sL ?_ | refine ag_qz ?_ (fun k => hz _ k (by omega) (by omega)) | refine ag_s0 ?_ (hz _ _ (by omega) (by omega))
  have k := lX3_47 (fX3_init_59 FU) (fun _ m' => AG m' (upR (upR (upR V 50 10 (Zi 1048575)) 51 15 (Zi 1048575)) 53 15 (Zi 1048575)) ∧ ∀ c k, ¬ (47 ≤ c ∧ c ≤ 57) → gR m' c k = gR m c k) V 10 0 FU (sR (sR (qz (sR (qz (sR (qz (sR (qz (sR (qz (sR (qz (sR (qz (sR (qz (sR (qz (sR (qz m 48) 47 1 (some 48)) 49) 47 2 (some 49)) 50) 47 3 (some 50)) 51) 47 4 (some 51)) 52) 47 5 (some 52)) 53) 47 6 (some 53)) 54) 47 7 (some 54)) 55) 47 8 (some 55)) 56) 47 9 (some 56)) 57) 47 10 (some 57)) 47 0 (some 4)) (by omega) (by rw [FU_d]; omega) (by simp [gR_sR, gR_qz]) (by rw [upR_0]; exact a0) (fun w' h1 h2 => by
    obtain ⟨x, m', e1, e2, e3⟩ := lX3_59 (upR V 50 10 (Zi 1048575)) 15 0 FU w' (by omega) (by rw [FU_d]; omega) (by rw [h2]; simp [gR_sR, gR_qz]) (by rw [h2]; simp [gR_sR, gR_qz]) (by rw [upR_0, upR_0]; exact h1)
    refine ⟨x, m', e1, e2, fun c k hc => ?_⟩
    rw [e3, h2]
    simp only [gR_sR, gR_qz, gR_sI, gR_sL]
    repeat rw [if_neg (by omega)])
  rw [fX3_init_d]
  simp only [fX3_init_0, nb_4, nz_4, nb_5, nz_5, nb_6, nz_6, nb_8, nz_8, nb_10, nz_10, nb_15, nz_15, nb_32, nz_32, nb_40, nz_40, nb_80, nz_80, nb_81, nz_81, nb_100, nz_100, nb_150, nz_150, nb_160, nz_160, nb_200, nz_200, nb_225, nz_225, nb_400, nz_400, nb_2400, nz_2400, nb_3240, nz_3240, cond_true, cond_false]
  exact k
theorem cX4_init_s (m : qM) (V : Nat → Nat → Int32) (h : AG m V) (hz : ∀ c k, 58 ≤ c → c ≤ 67 → V c k = 0) : wp (fX4_init m) (fun _ m' => AG m' (upR (upR V 63 150 (Zi (-1))) 64 200 (Zi (-1))) ∧ ∀ c k, ¬ (58 ≤ c ∧ c ≤ 67) → gR m' c k = gR m c k) := by
  have a0 : AG (sR (sR (sI (sI (sI (sI (sI (sI (sR (qz (sR (qz (sR (qz (sR (qz (sR (qz (sR (qz (sR (qz (sR (qz (sR (qz m 59) 58 2 (some 59)) 60) 58 3 (some 60)) 61) 58 4 (some 61)) 62) 58 5 (some 62)) 63) 58 6 (some 63)) 64) 58 7 (some 64)) 65) 58 8 (some 65)) 66) 58 9 (some 66)) 67) 58 10 (some 67)) 58 11 0) 58 12 0) 58 13 0) 58 14 0) 58 15 0) 58 16 0) 58 0 (some 4)) 58 1 (some 47)) V := by
    repeat first | exact h | refine ag_sR ?_ | refine ag_sL ?_ | refine ag_qz ?_ (fun k => hz _ k (by omega) (by omega)) | refine ag_s0 ?_ (hz _ _ (by omega) (by omega))
  have k := lX4_64 (fX4_init_76 FU) (fun _ m' => AG m' (upR (upR V 63 150 (Zi (-1))) 64 200 (Zi (-1))) ∧ ∀ c k, ¬ (58 ≤ c ∧ c ≤ 67) → gR m' c k = gR m c k) V 150 0 FU (sR (sR (sI (sI (sI (sI (sI (sI (sR (qz (sR (qz (sR (qz (sR (qz (sR (qz (sR (qz (sR (qz (sR (qz (sR (qz m 59) 58 2 (some 59)) 60) 58 3 (some 60)) 61) 58 4 (some 61)) 62) 58 5 (some 62)) 63) 58 6 (some 63)) 64) 58 7 (some 64)) 65) 58 8 (some 65)) 66) 58 9 (some 66)) 67) 58 10 (some 67)) 58 11 0) 58 12 0) 58 13 0) 58 14 0) 58 15 0) 58 16 0) 58 0 (some 4)) 58 1 (some 47)) (by omega) (by rw [FU_d]; omega) (by simp [gR_sR, gR_qz, gR_sI]) (by rw [upR_0]; exact a0) (fun w' h1 h2 => by
    obtain ⟨x, m', e1, e2, e3⟩ := lX4_76 (upR V 63 150 (Zi (-1))) 200 0 FU w' (by omega) (by rw [FU_d]; omega) (by rw [h2]; simp [gR_sR, gR_qz, gR_sI]) (by rw [upR_0]; exact h1)
    refine ⟨x, m', e1, e2, fun c k hc => ?_⟩
    rw [e3, h2]
    simp only [gR_sR, gR_qz, gR_sI, gR_sL]
    repeat rw [if_neg (by omega)])
  rw [fX4_init_d]
  simp only [fX4_init_0, nb_4, nz_4, nb_5, nz_5, nb_6, nz_6, nb_8, nz_8, nb_10, nz_10, nb_15, nz_15, nb_32, nz_32, nb_40, nz_40, nb_80, nz_80, nb_81, nz_81, nb_100, nz_100, nb_150, nz_150, nb_160, nz_160, nb_200, nz_200, nb_225, nz_225, nb_400, nz_400, nb_2400, nz_2400, nb_3240, nz_3240, cond_true, cond_false]
  exact k
