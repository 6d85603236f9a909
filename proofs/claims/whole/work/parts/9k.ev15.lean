/-! how far off -/
def hfV (s t : Int) : Int := if s = -1 ∨ t = -1 then (if s = t then 0 else 30) else ((s - t).natAbs : Int)
theorem hfV_r {s t : Int} (hs : -1 ≤ s ∧ s ≤ 799) (ht : -1 ≤ t ∧ t ≤ 799) : 0 ≤ hfV s t ∧ hfV s t ≤ 800 := by
  unfold hfV
  split
  · split <;> omega
  · omega
theorem howFar_s (s t : Int) (hs : -1 ≤ s ∧ s ≤ 799) (ht : -1 ≤ t ∧ t ≤ 799) (m : qM) : fX1_howFar (Zi s) (Zi t) m = some (Zi (hfV s t), m) := by
  rw [fX1_howFar_d]
  unfold hfV
  by_cases g1 : s = -1
  · rw [if_pos (Or.inl g1)]
    by_cases g2 : s = t
    · rw [if_pos g2]
      simp (disch := omega) only [fX1_howFar_0, fX1_howFar_6, fX1_howFar_12, qbI_s, qbL_s, qbV_s, qbR_s, qbR_n, qbN_s, qbN_n, qbIX_s, qbIX_n, qbVX_s, qbVX_n, cond_true, cond_false, cond_dec, jadd, jsub, jmul, jneg, li_0, li_1, li_2, li_3, li_4, li_5, li_6, li_7, li_8, li_9, li_10, li_14, li_15, li_16, li_19, li_20, li_24, li_30, li_31, li_32, li_39, li_40, li_48, li_57, li_59, li_60, li_63, li_65, li_80, li_81, li_90, li_97, li_99, li_100, li_122, li_126, li_127, li_150, li_160, li_200, li_225, li_255, li_400, li_799, li_800, li_999, li_2400, li_3239, li_3240, li_1048575, li_1431655765, li_858993459, li_252645135, eqb_j, ltb_j, leb_j, inb_j, ix_j, ix_n, nz_b, nz_0, nz_1, eqb_b, bnot, vI_ne, vI_eq, gIL, gLI, gIR, gRI, gLR, gRL, Int.reduceLT, Int.reduceLE, Int.reduceEq, Int.reduceAdd, Int.reduceSub, Int.reduceMul, Int.reduceNeg, Int.reduceToNat, Nat.reduceEqDiff, reduceIte, if_neg, if_pos, gI_ne, show (-1 : Int32) = Zi (-1) from rfl]
    · rw [if_neg g2]
      simp (disch := omega) only [fX1_howFar_0, fX1_howFar_6, fX1_howFar_12, qbI_s, qbL_s, qbV_s, qbR_s, qbR_n, qbN_s, qbN_n, qbIX_s, qbIX_n, qbVX_s, qbVX_n, cond_true, cond_false, cond_dec, jadd, jsub, jmul, jneg, li_0, li_1, li_2, li_3, li_4, li_5, li_6, li_7, li_8, li_9, li_10, li_14, li_15, li_16, li_19, li_20, li_24, li_30, li_31, li_32, li_39, li_40, li_48, li_57, li_59, li_60, li_63, li_65, li_80, li_81, li_90, li_97, li_99, li_100, li_122, li_126, li_127, li_150, li_160, li_200, li_225, li_255, li_400, li_799, li_800, li_999, li_2400, li_3239, li_3240, li_1048575, li_1431655765, li_858993459, li_252645135, eqb_j, ltb_j, leb_j, inb_j, ix_j, ix_n, nz_b, nz_0, nz_1, eqb_b, bnot, vI_ne, vI_eq, gIL, gLI, gIR, gRI, gLR, gRL, Int.reduceLT, Int.reduceLE, Int.reduceEq, Int.reduceAdd, Int.reduceSub, Int.reduceMul, Int.reduceNeg, Int.reduceToNat, Nat.reduceEqDiff, reduceIte, if_neg, if_pos, gI_ne, show (-1 : Int32) = Zi (-1) from rfl]
  · by_cases g2 : t = -1
    · rw [if_pos (Or.inr g2), if_neg (by omega)]
      simp (disch := omega) only [fX1_howFar_0, fX1_howFar_6, fX1_howFar_12, qbI_s, qbL_s, qbV_s, qbR_s, qbR_n, qbN_s, qbN_n, qbIX_s, qbIX_n, qbVX_s, qbVX_n, cond_true, cond_false, cond_dec, jadd, jsub, jmul, jneg, li_0, li_1, li_2, li_3, li_4, li_5, li_6, li_7, li_8, li_9, li_10, li_14, li_15, li_16, li_19, li_20, li_24, li_30, li_31, li_32, li_39, li_40, li_48, li_57, li_59, li_60, li_63, li_65, li_80, li_81, li_90, li_97, li_99, li_100, li_122, li_126, li_127, li_150, li_160, li_200, li_225, li_255, li_400, li_799, li_800, li_999, li_2400, li_3239, li_3240, li_1048575, li_1431655765, li_858993459, li_252645135, eqb_j, ltb_j, leb_j, inb_j, ix_j, ix_n, nz_b, nz_0, nz_1, eqb_b, bnot, vI_ne, vI_eq, gIL, gLI, gIR, gRI, gLR, gRL, Int.reduceLT, Int.reduceLE, Int.reduceEq, Int.reduceAdd, Int.reduceSub, Int.reduceMul, Int.reduceNeg, Int.reduceToNat, Nat.reduceEqDiff, reduceIte, if_neg, if_pos, gI_ne, show (-1 : Int32) = Zi (-1) from rfl]
    · rw [if_neg (by omega)]
      simp (disch := omega) only [fX1_howFar_0, fX1_howFar_6, fX1_howFar_12, qbI_s, qbL_s, qbV_s, qbR_s, qbR_n, qbN_s, qbN_n, qbIX_s, qbIX_n, qbVX_s, qbVX_n, cond_true, cond_false, cond_dec, jadd, jsub, jmul, jneg, li_0, li_1, li_2, li_3, li_4, li_5, li_6, li_7, li_8, li_9, li_10, li_14, li_15, li_16, li_19, li_20, li_24, li_30, li_31, li_32, li_39, li_40, li_48, li_57, li_59, li_60, li_63, li_65, li_80, li_81, li_90, li_97, li_99, li_100, li_122, li_126, li_127, li_150, li_160, li_200, li_225, li_255, li_400, li_799, li_800, li_999, li_2400, li_3239, li_3240, li_1048575, li_1431655765, li_858993459, li_252645135, eqb_j, ltb_j, leb_j, inb_j, ix_j, ix_n, nz_b, nz_0, nz_1, eqb_b, bnot, vI_ne, vI_eq, gIL, gLI, gIR, gRI, gLR, gRL, Int.reduceLT, Int.reduceLE, Int.reduceEq, Int.reduceAdd, Int.reduceSub, Int.reduceMul, Int.reduceNeg, Int.reduceToNat, Nat.reduceEqDiff, reduceIte, if_neg, if_pos, gI_ne, abs_s, show (-1 : Int32) = Zi (-1) from rfl]
def ofV (d : Nat → Nat → Int) (S T : Nat → Int) (u : Int) (a : Nat) : Int := if d 125 a ≠ -1 ∧ (S a = -1 ∨ u < S a) then hfV (S a) (T a) else 0
theorem ofV_r {d : Nat → Nat → Int} {S T : Nat → Int} {n : Nat} (hS : ∀ a, a < n → (-1 ≤ S a ∧ S a ≤ 799) ∧ -1 ≤ T a ∧ T a ≤ 799) (u : Int) : ∀ i, i ≤ n → 0 ≤ fb_si (ofV d S T u) i ∧ fb_si (ofV d S T u) i ≤ 800 * i := by
  intro i
  induction i with
  | zero => intro _; exact ⟨Int.le_refl _, by show (0 : Int) ≤ _; omega⟩
  | succ i ih =>
    intro hi
    have h1 := ih (by omega)
    have h2 := hS i (by omega)
    have h3 := hfV_r h2.1 h2.2
    rw [fb_si_succ]
    have h4 : 0 ≤ ofV d S T u i ∧ ofV d S T u i ≤ 800 := by
      unfold ofV
      split <;> omega
    omega
theorem offC {w : qM} (hR : R0 w) (K N : Nat) (hK : K ≤ 80) (hN : N ≤ 80) (h5 : vI w 74 5 = N) (hS : ∀ a : Nat, (a : Int) < vI w 98 32 → (-1 ≤ rwS w K a ∧ rwS w K a ≤ 799) ∧ -1 ≤ rwS w N a ∧ rwS w N a ≤ 799) (u : Int) (hu : 0 ≤ u ∧ u ≤ 799) : fX1_offAt (Zi u) (Zi K) w = some (Zi (fb_si (ofV (vI w) (rwS w K) (rwS w N) u) (vI w 98 32).toNat), w) := by
  have hA := CAll.of hR
  have hD := DOk.of hA
  have n1 := hD.2.2.2.2.1
  have n2 := hD.2.2.2.2.2.1
  have e11 := hA.2.2.2.2.2.1.1
  have rr := ofV_r (d := vI w) (S := rwS w K) (T := rwS w N) (n := (vI w 98 32).toNat) (fun a ha => hS a (by omega)) u
  have loop : ∀ (r i g : Nat), i + r = (vI w 98 32).toNat → r < g → fX1_offAt_4 g (Zi u) (Zi K) (Zi (fb_si (ofV (vI w) (rwS w K) (rwS w N) u) i)) (Zi i) w = some (Zi (fb_si (ofV (vI w) (rwS w K) (rwS w N) u) (vI w 98 32).toNat), w) := by
    intro r
    induction r with
    | zero =>
      intro i g hi hg
      obtain ⟨g, rfl⟩ : ∃ g', g = g' + 1 := ⟨g - 1, by omega⟩
      rw [show i = (vI w 98 32).toNat by omega]
      simp (disch := omega) only [fX1_offAt_4, fX4_asks_d, fX4_asks_0, qbI_s, qbL_s, qbV_s, qbR_s, qbR_n, qbN_s, qbN_n, qbIX_s, qbIX_n, qbVX_s, qbVX_n, cond_true, cond_false, cond_dec, jadd, jsub, jmul, jneg, li_0, li_1, li_2, li_3, li_4, li_5, li_6, li_7, li_8, li_9, li_10, li_14, li_15, li_16, li_19, li_20, li_24, li_30, li_31, li_32, li_39, li_40, li_48, li_57, li_59, li_60, li_63, li_65, li_80, li_81, li_90, li_97, li_99, li_100, li_122, li_126, li_127, li_150, li_160, li_200, li_225, li_255, li_400, li_799, li_800, li_999, li_2400, li_3239, li_3240, li_1048575, li_1431655765, li_858993459, li_252645135, eqb_j, ltb_j, leb_j, inb_j, ix_j, ix_n, nz_b, nz_0, nz_1, eqb_b, bnot, vI_ne, vI_eq, gIL, gLI, gIR, gRI, gLR, gRL, Int.reduceLT, Int.reduceLE, Int.reduceEq, Int.reduceAdd, Int.reduceSub, Int.reduceMul, Int.reduceNeg, Int.reduceToNat, Nat.reduceEqDiff, reduceIte, if_neg, if_pos, gI_ne, gIv 58, e11]
    | succ r ih =>
      intro i g hi hg
      obtain ⟨g, rfl⟩ : ∃ g', g = g' + 1 := ⟨g - 1, by omega⟩
      have ih2 := ih (i + 1) g (by omega) (by omega)
      have hi' : (i : Int) < vI w 98 32 := by omega
      have sO := startOf_s w K i hK (by omega)
      have tO := startOf_s w N i hN (by omega)
      have hl := laidD w (vI w) hA.2.2.2.2.2.1 i hi'
      obtain ⟨sr, tr⟩ := hS i hi'
      have ri := rr i (by omega)
      rw [fb_si_succ] at ih2
      by_cases c0 : vI w 125 i = -1
      · rw [show isLd (vI w) i = false from decide_eq_false (fun z => z c0)] at hl
        rw [show ofV (vI w) (rwS w K) (rwS w N) u i = 0 from if_neg (fun z => z.1 c0), Int.add_zero] at ih2
        simp (disch := omega) only [fX1_offAt_4, fX1_offAt_36, fX4_asks_d, fX4_asks_0, qbI_s, qbL_s, qbV_s, qbR_s, qbR_n, qbN_s, qbN_n, qbIX_s, qbIX_n, qbVX_s, qbVX_n, cond_true, cond_false, cond_dec, jadd, jsub, jmul, jneg, li_0, li_1, li_2, li_3, li_4, li_5, li_6, li_7, li_8, li_9, li_10, li_14, li_15, li_16, li_19, li_20, li_24, li_30, li_31, li_32, li_39, li_40, li_48, li_57, li_59, li_60, li_63, li_65, li_80, li_81, li_90, li_97, li_99, li_100, li_122, li_126, li_127, li_150, li_160, li_200, li_225, li_255, li_400, li_799, li_800, li_999, li_2400, li_3239, li_3240, li_1048575, li_1431655765, li_858993459, li_252645135, eqb_j, ltb_j, leb_j, inb_j, ix_j, ix_n, nz_b, nz_0, nz_1, eqb_b, bnot, vI_ne, vI_eq, gIL, gLI, gIR, gRI, gLR, gRL, Int.reduceLT, Int.reduceLE, Int.reduceEq, Int.reduceAdd, Int.reduceSub, Int.reduceMul, Int.reduceNeg, Int.reduceToNat, Nat.reduceEqDiff, reduceIte, if_neg, if_pos, gI_ne, gIv 58, e11, sO, hl, show bI false = 0 from rfl]
        exact ih2
      · rw [show isLd (vI w) i = true from decide_eq_true c0] at hl
        have hf := howFar_s (rwS w K i) (rwS w N i) sr tr w
        have hr := hfV_r sr tr
        by_cases c1 : rwS w K i = -1 ∨ u < rwS w K i
        · rw [show ofV (vI w) (rwS w K) (rwS w N) u i = hfV (rwS w K i) (rwS w N i) from if_pos ⟨c0, c1⟩] at ih2
          rcases c1 with c1 | c1
          · simp (disch := omega) only [fX1_offAt_4, fX1_offAt_36, fX1_offAt_25, fX4_asks_d, fX4_asks_0, fX9_size_d, fX9_size_0, qbI_s, qbL_s, qbV_s, qbR_s, qbR_n, qbN_s, qbN_n, qbIX_s, qbIX_n, qbVX_s, qbVX_n, cond_true, cond_false, cond_dec, jadd, jsub, jmul, jneg, li_0, li_1, li_2, li_3, li_4, li_5, li_6, li_7, li_8, li_9, li_10, li_14, li_15, li_16, li_19, li_20, li_24, li_30, li_31, li_32, li_39, li_40, li_48, li_57, li_59, li_60, li_63, li_65, li_80, li_81, li_90, li_97, li_99, li_100, li_122, li_126, li_127, li_150, li_160, li_200, li_225, li_255, li_400, li_799, li_800, li_999, li_2400, li_3239, li_3240, li_1048575, li_1431655765, li_858993459, li_252645135, eqb_j, ltb_j, leb_j, inb_j, ix_j, ix_n, nz_b, nz_0, nz_1, eqb_b, bnot, vI_ne, vI_eq, gIL, gLI, gIR, gRI, gLR, gRL, Int.reduceLT, Int.reduceLE, Int.reduceEq, Int.reduceAdd, Int.reduceSub, Int.reduceMul, Int.reduceNeg, Int.reduceToNat, Nat.reduceEqDiff, reduceIte, if_neg, if_pos, gI_ne, gIv 58, e11, gIv 74, h5, sO, tO, hl, hf, show bI true = 1 from rfl, show (-1 : Int32) = Zi (-1) from rfl]
            exact ih2
          · simp (disch := omega) only [fX1_offAt_4, fX1_offAt_36, fX1_offAt_25, fX4_asks_d, fX4_asks_0, fX9_size_d, fX9_size_0, qbI_s, qbL_s, qbV_s, qbR_s, qbR_n, qbN_s, qbN_n, qbIX_s, qbIX_n, qbVX_s, qbVX_n, cond_true, cond_false, cond_dec, jadd, jsub, jmul, jneg, li_0, li_1, li_2, li_3, li_4, li_5, li_6, li_7, li_8, li_9, li_10, li_14, li_15, li_16, li_19, li_20, li_24, li_30, li_31, li_32, li_39, li_40, li_48, li_57, li_59, li_60, li_63, li_65, li_80, li_81, li_90, li_97, li_99, li_100, li_122, li_126, li_127, li_150, li_160, li_200, li_225, li_255, li_400, li_799, li_800, li_999, li_2400, li_3239, li_3240, li_1048575, li_1431655765, li_858993459, li_252645135, eqb_j, ltb_j, leb_j, inb_j, ix_j, ix_n, nz_b, nz_0, nz_1, eqb_b, bnot, vI_ne, vI_eq, gIL, gLI, gIR, gRI, gLR, gRL, Int.reduceLT, Int.reduceLE, Int.reduceEq, Int.reduceAdd, Int.reduceSub, Int.reduceMul, Int.reduceNeg, Int.reduceToNat, Nat.reduceEqDiff, reduceIte, if_neg, if_pos, gI_ne, gIv 58, e11, gIv 74, h5, sO, tO, hl, hf, show bI true = 1 from rfl, show (-1 : Int32) = Zi (-1) from rfl]
            exact ih2
        · rw [show ofV (vI w) (rwS w K) (rwS w N) u i = 0 from if_neg (fun z => c1 z.2), Int.add_zero] at ih2
          simp (disch := omega) only [fX1_offAt_4, fX1_offAt_36, fX4_asks_d, fX4_asks_0, qbI_s, qbL_s, qbV_s, qbR_s, qbR_n, qbN_s, qbN_n, qbIX_s, qbIX_n, qbVX_s, qbVX_n, cond_true, cond_false, cond_dec, jadd, jsub, jmul, jneg, li_0, li_1, li_2, li_3, li_4, li_5, li_6, li_7, li_8, li_9, li_10, li_14, li_15, li_16, li_19, li_20, li_24, li_30, li_31, li_32, li_39, li_40, li_48, li_57, li_59, li_60, li_63, li_65, li_80, li_81, li_90, li_97, li_99, li_100, li_122, li_126, li_127, li_150, li_160, li_200, li_225, li_255, li_400, li_799, li_800, li_999, li_2400, li_3239, li_3240, li_1048575, li_1431655765, li_858993459, li_252645135, eqb_j, ltb_j, leb_j, inb_j, ix_j, ix_n, nz_b, nz_0, nz_1, eqb_b, bnot, vI_ne, vI_eq, gIL, gLI, gIR, gRI, gLR, gRL, Int.reduceLT, Int.reduceLE, Int.reduceEq, Int.reduceAdd, Int.reduceSub, Int.reduceMul, Int.reduceNeg, Int.reduceToNat, Nat.reduceEqDiff, reduceIte, if_neg, if_pos, gI_ne, gIv 58, e11, sO, hl, show bI true = 1 from rfl, show (-1 : Int32) = Zi (-1) from rfl]
          exact ih2
  rw [fX1_offAt_d]
  exact loop (vI w 98 32).toNat 0 FU (by omega) (by rw [FU_d]; omega)
theorem offCp {v0 : qM} (N : Nat) (hN : vI v0 98 32 = N ∧ N ≤ 40) (k37 : Int32 → Int32 → Int32 → qM → Option (Int32 × qM)) (u : Int32) (Q : Int32 → qM → Prop) (hk : ∀ v', Fr (fun c _ => c = 150) v0 v' → (∀ j, j < N → vI v' 150 j = vI v0 141 j) → wp (qbV (fX13_goThrough (Zi 799) v') (fun m4 => k37 u (Zi 0) (Zi 0) m4)) Q) : ∀ (r a g : Nat) (v : qM), a + r = N → r < g → Fr (fun c _ => c = 150) v0 v → (∀ j, j < a → vI v 150 j = vI v0 141 j) → wp (fX13_off_16 k37 g u (Zi a) v) Q := by
  intro r
  induction r with
  | zero =>
    intro a g v ha hg hF h1
    obtain ⟨g, rfl⟩ : ∃ g', g = g' + 1 := ⟨g - 1, by omega⟩
    have e98 : vI v 98 32 = N := by rw [hF.v 98 32 (by omega)]; exact hN.1
    have n := hk v hF (fun j hj => h1 j (by omega))
    simp (disch := omega) only [fX13_off_16, cond_true, cond_dec, leb_j, li_0, li_799, if_pos, gIv 98, e98]
    exact n
  | succ r ih =>
    intro a g v ha hg hF h1
    obtain ⟨g, rfl⟩ : ∃ g', g = g' + 1 := ⟨g - 1, by omega⟩
    have e98 : vI v 98 32 = N := by rw [hF.v 98 32 (by omega)]; exact hN.1
    have r141 := vI_r v0 141 a
    have e141 : vI v 141 a = vI v0 141 a := hF.v 141 a (by omega)
    have n := ih (a + 1) g (sI v 150 a (Zi (vI v0 141 a))) (by omega) (by omega) (Fr.wI (P := fun c _ => c = 150) hF 150 _ _ rfl) (fun j hj => by
      rw [vI_eq (by omega)]
      by_cases e : j = a
      · rw [if_pos e, e]
      · rw [if_neg e]; exact h1 j (by omega))
    simp (disch := omega) only [fX13_off_16, qbI_s, qbL_s, qbV_s, qbR_s, qbR_n, qbN_s, qbN_n, qbIX_s, qbIX_n, qbVX_s, qbVX_n, cond_true, cond_false, cond_dec, jadd, jsub, jmul, jneg, li_0, li_1, li_2, li_3, li_4, li_5, li_6, li_7, li_8, li_9, li_10, li_14, li_15, li_16, li_19, li_20, li_24, li_30, li_31, li_32, li_39, li_40, li_48, li_57, li_59, li_60, li_63, li_65, li_80, li_81, li_90, li_97, li_99, li_100, li_122, li_126, li_127, li_150, li_160, li_200, li_225, li_255, li_400, li_799, li_800, li_999, li_2400, li_3239, li_3240, li_1048575, li_1431655765, li_858993459, li_252645135, eqb_j, ltb_j, leb_j, inb_j, ix_j, ix_n, nz_b, nz_0, nz_1, eqb_b, bnot, vI_ne, vI_eq, gIL, gLI, gIR, gRI, gLR, gRL, Int.reduceLT, Int.reduceLE, Int.reduceEq, Int.reduceAdd, Int.reduceSub, Int.reduceMul, Int.reduceNeg, Int.reduceToNat, Nat.reduceEqDiff, reduceIte, if_neg, if_pos, gI_ne, gIv 98, e98, gIv 141, e141]
    exact n
theorem offM {v : qM} {d : Nat → Nat → Int} (hD : DOk d) (S T : Nat → Int) (h98 : vI v 98 32 = d 98 32) (hv : ∀ a : Nat, (a : Int) < d 98 32 → vI v 125 a = d 125 a ∧ vI v 150 a = S a ∧ vI v 141 a = T a ∧ (-1 ≤ S a ∧ S a ≤ 799) ∧ -1 ≤ T a ∧ T a ≤ 799) (u : Int) (hu : 0 ≤ u ∧ u ≤ 799) : fX13_off_37 FU (Zi u) (Zi 0) (Zi 0) v = some (Zi (fb_si (ofV d S T u) (d 98 32).toNat), v) := by
  have n1 := hD.2.2.2.2.1
  have n2 := hD.2.2.2.2.2.1
  have rr := ofV_r (d := d) (S := S) (T := T) (n := (d 98 32).toNat) (fun a ha => (hv a (by omega)).2.2.2) u
  have loop : ∀ (r i g : Nat), i + r = (d 98 32).toNat → r < g → fX13_off_37 g (Zi u) (Zi (fb_si (ofV d S T u) i)) (Zi i) v = some (Zi (fb_si (ofV d S T u) (d 98 32).toNat), v) := by
    intro r
    induction r with
    | zero =>
      intro i g hi hg
      obtain ⟨g, rfl⟩ : ∃ g', g = g' + 1 := ⟨g - 1, by omega⟩
      rw [show i = (d 98 32).toNat by omega]
      simp (disch := omega) only [fX13_off_37, qbI_s, qbL_s, qbV_s, qbR_s, qbR_n, qbN_s, qbN_n, qbIX_s, qbIX_n, qbVX_s, qbVX_n, cond_true, cond_false, cond_dec, jadd, jsub, jmul, jneg, li_0, li_1, li_2, li_3, li_4, li_5, li_6, li_7, li_8, li_9, li_10, li_14, li_15, li_16, li_19, li_20, li_24, li_30, li_31, li_32, li_39, li_40, li_48, li_57, li_59, li_60, li_63, li_65, li_80, li_81, li_90, li_97, li_99, li_100, li_122, li_126, li_127, li_150, li_160, li_200, li_225, li_255, li_400, li_799, li_800, li_999, li_2400, li_3239, li_3240, li_1048575, li_1431655765, li_858993459, li_252645135, eqb_j, ltb_j, leb_j, inb_j, ix_j, ix_n, nz_b, nz_0, nz_1, eqb_b, bnot, vI_ne, vI_eq, gIL, gLI, gIR, gRI, gLR, gRL, Int.reduceLT, Int.reduceLE, Int.reduceEq, Int.reduceAdd, Int.reduceSub, Int.reduceMul, Int.reduceNeg, Int.reduceToNat, Nat.reduceEqDiff, reduceIte, if_neg, if_pos, gI_ne, gIv 98, h98]
    | succ r ih =>
      intro i g hi hg
      obtain ⟨g, rfl⟩ : ∃ g', g = g' + 1 := ⟨g - 1, by omega⟩
      have ih2 := ih (i + 1) g (by omega) (by omega)
      have hi' : (i : Int) < d 98 32 := by omega
      obtain ⟨e1, e2, e3, sr, tr⟩ := hv i hi'
      have k4 := (hD.2.2.2.2.2.2 i hi').2.2.2
      have ri := rr i (by omega)
      rw [fb_si_succ] at ih2
      by_cases c0 : d 125 i = -1
      · rw [show ofV d S T u i = 0 from if_neg (fun z => z.1 c0), Int.add_zero] at ih2
        simp (disch := omega) only [fX13_off_37, fX13_off_102, qbI_s, qbL_s, qbV_s, qbR_s, qbR_n, qbN_s, qbN_n, qbIX_s, qbIX_n, qbVX_s, qbVX_n, cond_true, cond_false, cond_dec, jadd, jsub, jmul, jneg, li_0, li_1, li_2, li_3, li_4, li_5, li_6, li_7, li_8, li_9, li_10, li_14, li_15, li_16, li_19, li_20, li_24, li_30, li_31, li_32, li_39, li_40, li_48, li_57, li_59, li_60, li_63, li_65, li_80, li_81, li_90, li_97, li_99, li_100, li_122, li_126, li_127, li_150, li_160, li_200, li_225, li_255, li_400, li_799, li_800, li_999, li_2400, li_3239, li_3240, li_1048575, li_1431655765, li_858993459, li_252645135, eqb_j, ltb_j, leb_j, inb_j, ix_j, ix_n, nz_b, nz_0, nz_1, eqb_b, bnot, vI_ne, vI_eq, gIL, gLI, gIR, gRI, gLR, gRL, Int.reduceLT, Int.reduceLE, Int.reduceEq, Int.reduceAdd, Int.reduceSub, Int.reduceMul, Int.reduceNeg, Int.reduceToNat, Nat.reduceEqDiff, reduceIte, if_neg, if_pos, gI_ne, gIv 98, h98, gIv 125, e1, show (-1 : Int32) = Zi (-1) from rfl]
        exact ih2
      · by_cases c1 : S i = -1 ∨ u < S i
        · rw [show ofV d S T u i = hfV (S i) (T i) from if_pos ⟨c0, c1⟩] at ih2
          have hr := hfV_r sr tr
          have go : fX13_off_60 (fX13_off_37 g) (Zi u) (Zi (fb_si (ofV d S T u) i)) (Zi i) v = some (Zi (fb_si (ofV d S T u) (d 98 32).toNat), v) := by
            unfold hfV at ih2
            by_cases d1 : S i = -1
            · by_cases d2 : T i = -1
              · rw [if_pos (Or.inl d1), if_pos (by omega)] at ih2
                simp (disch := omega) only [fX13_off_60, fX13_off_69, fX13_off_79, fX13_off_100, fX13_off_102, qbI_s, qbL_s, qbV_s, qbR_s, qbR_n, qbN_s, qbN_n, qbIX_s, qbIX_n, qbVX_s, qbVX_n, cond_true, cond_false, cond_dec, jadd, jsub, jmul, jneg, li_0, li_1, li_2, li_3, li_4, li_5, li_6, li_7, li_8, li_9, li_10, li_14, li_15, li_16, li_19, li_20, li_24, li_30, li_31, li_32, li_39, li_40, li_48, li_57, li_59, li_60, li_63, li_65, li_80, li_81, li_90, li_97, li_99, li_100, li_122, li_126, li_127, li_150, li_160, li_200, li_225, li_255, li_400, li_799, li_800, li_999, li_2400, li_3239, li_3240, li_1048575, li_1431655765, li_858993459, li_252645135, eqb_j, ltb_j, leb_j, inb_j, ix_j, ix_n, nz_b, nz_0, nz_1, eqb_b, bnot, vI_ne, vI_eq, gIL, gLI, gIR, gRI, gLR, gRL, Int.reduceLT, Int.reduceLE, Int.reduceEq, Int.reduceAdd, Int.reduceSub, Int.reduceMul, Int.reduceNeg, Int.reduceToNat, Nat.reduceEqDiff, reduceIte, if_neg, if_pos, gI_ne, gIv 150, gIv 141, e2, e3, d1, d2, show (-1 : Int32) = Zi (-1) from rfl]
                exact ih2
              · rw [if_pos (Or.inl d1), if_neg (by omega)] at ih2
                simp (disch := omega) only [fX13_off_60, fX13_off_69, fX13_off_79, fX13_off_100, fX13_off_102, qbI_s, qbL_s, qbV_s, qbR_s, qbR_n, qbN_s, qbN_n, qbIX_s, qbIX_n, qbVX_s, qbVX_n, cond_true, cond_false, cond_dec, jadd, jsub, jmul, jneg, li_0, li_1, li_2, li_3, li_4, li_5, li_6, li_7, li_8, li_9, li_10, li_14, li_15, li_16, li_19, li_20, li_24, li_30, li_31, li_32, li_39, li_40, li_48, li_57, li_59, li_60, li_63, li_65, li_80, li_81, li_90, li_97, li_99, li_100, li_122, li_126, li_127, li_150, li_160, li_200, li_225, li_255, li_400, li_799, li_800, li_999, li_2400, li_3239, li_3240, li_1048575, li_1431655765, li_858993459, li_252645135, eqb_j, ltb_j, leb_j, inb_j, ix_j, ix_n, nz_b, nz_0, nz_1, eqb_b, bnot, vI_ne, vI_eq, gIL, gLI, gIR, gRI, gLR, gRL, Int.reduceLT, Int.reduceLE, Int.reduceEq, Int.reduceAdd, Int.reduceSub, Int.reduceMul, Int.reduceNeg, Int.reduceToNat, Nat.reduceEqDiff, reduceIte, if_neg, if_pos, gI_ne, gIv 150, gIv 141, e2, e3, d1, show (-1 : Int32) = Zi (-1) from rfl]
                exact ih2
            · by_cases d2 : T i = -1
              · rw [if_pos (Or.inr d2), if_neg (by omega)] at ih2
                simp (disch := omega) only [fX13_off_60, fX13_off_69, fX13_off_79, fX13_off_100, fX13_off_102, qbI_s, qbL_s, qbV_s, qbR_s, qbR_n, qbN_s, qbN_n, qbIX_s, qbIX_n, qbVX_s, qbVX_n, cond_true, cond_false, cond_dec, jadd, jsub, jmul, jneg, li_0, li_1, li_2, li_3, li_4, li_5, li_6, li_7, li_8, li_9, li_10, li_14, li_15, li_16, li_19, li_20, li_24, li_30, li_31, li_32, li_39, li_40, li_48, li_57, li_59, li_60, li_63, li_65, li_80, li_81, li_90, li_97, li_99, li_100, li_122, li_126, li_127, li_150, li_160, li_200, li_225, li_255, li_400, li_799, li_800, li_999, li_2400, li_3239, li_3240, li_1048575, li_1431655765, li_858993459, li_252645135, eqb_j, ltb_j, leb_j, inb_j, ix_j, ix_n, nz_b, nz_0, nz_1, eqb_b, bnot, vI_ne, vI_eq, gIL, gLI, gIR, gRI, gLR, gRL, Int.reduceLT, Int.reduceLE, Int.reduceEq, Int.reduceAdd, Int.reduceSub, Int.reduceMul, Int.reduceNeg, Int.reduceToNat, Nat.reduceEqDiff, reduceIte, if_neg, if_pos, gI_ne, gIv 150, gIv 141, e2, e3, d2, show (-1 : Int32) = Zi (-1) from rfl]
                exact ih2
              · rw [if_neg (by omega)] at ih2
                simp (disch := omega) only [fX13_off_60, fX13_off_69, fX13_off_79, fX13_off_100, fX13_off_102, qbI_s, qbL_s, qbV_s, qbR_s, qbR_n, qbN_s, qbN_n, qbIX_s, qbIX_n, qbVX_s, qbVX_n, cond_true, cond_false, cond_dec, jadd, jsub, jmul, jneg, li_0, li_1, li_2, li_3, li_4, li_5, li_6, li_7, li_8, li_9, li_10, li_14, li_15, li_16, li_19, li_20, li_24, li_30, li_31, li_32, li_39, li_40, li_48, li_57, li_59, li_60, li_63, li_65, li_80, li_81, li_90, li_97, li_99, li_100, li_122, li_126, li_127, li_150, li_160, li_200, li_225, li_255, li_400, li_799, li_800, li_999, li_2400, li_3239, li_3240, li_1048575, li_1431655765, li_858993459, li_252645135, eqb_j, ltb_j, leb_j, inb_j, ix_j, ix_n, nz_b, nz_0, nz_1, eqb_b, bnot, vI_ne, vI_eq, gIL, gLI, gIR, gRI, gLR, gRL, Int.reduceLT, Int.reduceLE, Int.reduceEq, Int.reduceAdd, Int.reduceSub, Int.reduceMul, Int.reduceNeg, Int.reduceToNat, Nat.reduceEqDiff, reduceIte, if_neg, if_pos, gI_ne, gIv 150, gIv 141, e2, e3, abs_s, show (-1 : Int32) = Zi (-1) from rfl]
                exact ih2
          rcases c1 with c1 | c1
          · simp (disch := omega) only [fX13_off_37, qbI_s, qbL_s, qbV_s, qbR_s, qbR_n, qbN_s, qbN_n, qbIX_s, qbIX_n, qbVX_s, qbVX_n, cond_true, cond_false, cond_dec, jadd, jsub, jmul, jneg, li_0, li_1, li_2, li_3, li_4, li_5, li_6, li_7, li_8, li_9, li_10, li_14, li_15, li_16, li_19, li_20, li_24, li_30, li_31, li_32, li_39, li_40, li_48, li_57, li_59, li_60, li_63, li_65, li_80, li_81, li_90, li_97, li_99, li_100, li_122, li_126, li_127, li_150, li_160, li_200, li_225, li_255, li_400, li_799, li_800, li_999, li_2400, li_3239, li_3240, li_1048575, li_1431655765, li_858993459, li_252645135, eqb_j, ltb_j, leb_j, inb_j, ix_j, ix_n, nz_b, nz_0, nz_1, eqb_b, bnot, vI_ne, vI_eq, gIL, gLI, gIR, gRI, gLR, gRL, Int.reduceLT, Int.reduceLE, Int.reduceEq, Int.reduceAdd, Int.reduceSub, Int.reduceMul, Int.reduceNeg, Int.reduceToNat, Nat.reduceEqDiff, reduceIte, if_neg, if_pos, gI_ne, gIv 98, h98, gIv 125, e1, gIv 150, e2, c1, show (-1 : Int32) = Zi (-1) from rfl]
            exact go
          · simp (disch := omega) only [fX13_off_37, qbI_s, qbL_s, qbV_s, qbR_s, qbR_n, qbN_s, qbN_n, qbIX_s, qbIX_n, qbVX_s, qbVX_n, cond_true, cond_false, cond_dec, jadd, jsub, jmul, jneg, li_0, li_1, li_2, li_3, li_4, li_5, li_6, li_7, li_8, li_9, li_10, li_14, li_15, li_16, li_19, li_20, li_24, li_30, li_31, li_32, li_39, li_40, li_48, li_57, li_59, li_60, li_63, li_65, li_80, li_81, li_90, li_97, li_99, li_100, li_122, li_126, li_127, li_150, li_160, li_200, li_225, li_255, li_400, li_799, li_800, li_999, li_2400, li_3239, li_3240, li_1048575, li_1431655765, li_858993459, li_252645135, eqb_j, ltb_j, leb_j, inb_j, ix_j, ix_n, nz_b, nz_0, nz_1, eqb_b, bnot, vI_ne, vI_eq, gIL, gLI, gIR, gRI, gLR, gRL, Int.reduceLT, Int.reduceLE, Int.reduceEq, Int.reduceAdd, Int.reduceSub, Int.reduceMul, Int.reduceNeg, Int.reduceToNat, Nat.reduceEqDiff, reduceIte, if_neg, if_pos, gI_ne, gIv 98, h98, gIv 125, e1, gIv 150, e2, show (-1 : Int32) = Zi (-1) from rfl]
            exact go
        · rw [show ofV d S T u i = 0 from if_neg (fun z => c1 z.2), Int.add_zero] at ih2
          simp (disch := omega) only [fX13_off_37, fX13_off_102, qbI_s, qbL_s, qbV_s, qbR_s, qbR_n, qbN_s, qbN_n, qbIX_s, qbIX_n, qbVX_s, qbVX_n, cond_true, cond_false, cond_dec, jadd, jsub, jmul, jneg, li_0, li_1, li_2, li_3, li_4, li_5, li_6, li_7, li_8, li_9, li_10, li_14, li_15, li_16, li_19, li_20, li_24, li_30, li_31, li_32, li_39, li_40, li_48, li_57, li_59, li_60, li_63, li_65, li_80, li_81, li_90, li_97, li_99, li_100, li_122, li_126, li_127, li_150, li_160, li_200, li_225, li_255, li_400, li_799, li_800, li_999, li_2400, li_3239, li_3240, li_1048575, li_1431655765, li_858993459, li_252645135, eqb_j, ltb_j, leb_j, inb_j, ix_j, ix_n, nz_b, nz_0, nz_1, eqb_b, bnot, vI_ne, vI_eq, gIL, gLI, gIR, gRI, gLR, gRL, Int.reduceLT, Int.reduceLE, Int.reduceEq, Int.reduceAdd, Int.reduceSub, Int.reduceMul, Int.reduceNeg, Int.reduceToNat, Nat.reduceEqDiff, reduceIte, if_neg, if_pos, gI_ne, gIv 98, h98, gIv 125, e1, gIv 150, e2, show (-1 : Int32) = Zi (-1) from rfl]
          exact ih2
  exact loop (d 98 32).toNat 0 FU (by omega) (by rw [FU_d]; omega)
theorem op_off (m : qM) (h : RAll m) (u : Int) (hu0 : -2147483648 ≤ u ∧ u < 2147483648) : QAll m (fX11_off (Zi u)) (fX13_off (Zi u)) := by
  have hR := h.1
  have hR' := hR
  obtain ⟨⟨hT, hRd, hRu, hFo, hHa⟩, ⟨hPt, hPf, hAp, hWk⟩, ⟨hAs, hPa, hCl, hDi, hBi, hCn⟩, ⟨hTe, hBe, hNo, hPo⟩⟩ := hR'
  have b1 := hBe.1
  have b2 := hBe.2.1
  have bf : bI false = 0 := rfl
  have btr : bI true = 1 := rfl
  have n32 : 0 ≤ vI m 98 32 ∧ vI m 98 32 ≤ 40 := ⟨hAs.2.1, hAs.2.2.1⟩
  have n52 : 0 ≤ vI m 98 52 ∧ vI m 98 52 ≤ 80 := ⟨hTe.2.1, hTe.2.2.1⟩
  have mC := mR_s u hu0 m
  have mM := mM_s u hu0 m
  by_cases g2 : 0 ≤ u ∧ u ≤ 799
  · rw [decide_eq_true g2] at mC mM
    by_cases gb : vI m 98 33 = 1
    · obtain ⟨K, k1, k2, k3, k4, k5⟩ := known_s hTe u g2
      obtain ⟨x1, m1, e1, F1, A1, d1, -⟩ := ready_s h gb K k2 k3
      have v1 : ∀ c k, ¬ (80 ≤ c ∧ c ≤ 92) → vI m1 c k = vI m c k := fun c k hc => F1.v c k hc
      have gb1 : vI m1 98 33 = 1 := by rw [v1 98 33 (by omega)]; exact gb
      obtain ⟨N, hN⟩ : ∃ N : Nat, vI m 98 52 = N := ⟨(vI m 98 52).toNat, by omega⟩
      have N1 : vI m1 98 52 = N := by rw [v1 98 52 (by omega)]; exact hN
      obtain ⟨x2, m2, e2, F2, A2, d2, kp⟩ := ready_s A1 gb1 N (by omega) (by omega)
      have v2 : ∀ c k, ¬ (80 ≤ c ∧ c ≤ 92) → vI m2 c k = vI m c k := fun c k hc => by rw [F2.v c k hc, v1 c k hc]
      have gb2 : vI m2 98 33 = 1 := by rw [v2 98 33 (by omega)]; exact gb
      have d3 := (kp K k2 d1).1
      have s5 : vI m1 74 5 = N := by rw [A1.1.2.2.2.1.1, N1]
      have s52 : vI m2 74 5 = N := by rw [A2.1.2.2.2.1.1, v2 98 52 (by omega), hN]
      have rK := rowR A2 K k2 d3
      have rN := rowR A2 N (by omega) d2
      have cls := offC A2.1 K N k2 (by omega) s52 (fun a ha => ⟨(rK a ha).1, (rN a ha).1⟩) u g2
      have hD2 := DOk.of (CAll.of A2.1)
      obtain ⟨W, hW⟩ : ∃ W : Nat, vI m2 98 32 = W := ⟨(vI m2 98 32).toNat, by rw [v2 98 32 (by omega)]; omega⟩
      have w40 : W ≤ 40 := by have := v2 98 32 (by omega); omega
      obtain ⟨x3, m3, e3, F3, q3, g3, r3⟩ := go_s (v := m2) A2 gb2 K k2 d3 u (by omega) (fun k hk => by rw [v2 134 k (by omega)]; exact k4 k hk) (by rw [v2 98 52 (by omega), v2 134 K (by omega)]; exact k5) (fun c k _ => rfl) rfl
      have mM2 := mM_s u hu0 m2
      rw [decide_eq_true g2] at mM2
      have fin : wp (fX13_off_16 (fX13_off_37 FU) FU (Zi u) (Zi ((0 : Nat) : Int)) m3) (fun x m' => x = Zi (fb_si (ofV (vI m2) (rwS m2 K) (rwS m2 N) u) (vI m2 98 32).toNat) ∧ RAll m') := by
        refine offCp (v0 := m3) W ⟨by rw [vI_of (q3 98 32 (by omega))]; exact hW, w40⟩ _ _ _ (fun v' F4 c4 => ?_) W 0 FU m3 (by omega) (by rw [FU_d]; omega) (Fr.rf m3) (fun j hj => by omega)
        have q4 : ∀ c k, ¬ (139 ≤ c ∧ c ≤ 150 ∨ c = 98 ∧ k = 70) → gI v' c k = gI m2 c k := fun c k hc => by rw [F4.1 c k (by omega)]; exact q3 c k hc
        obtain ⟨x5, m5, e5, F5, q5, g5, r5⟩ := go_s (v := v') A2 gb2 N (by omega) d2 799 (by omega) (fun k hk => by
          have := (A2.1.2.2.2.1.2.2.2.2.1 k (by rw [v2 98 52 (by omega)]; omega)).2.1
          exact this) (Or.inl (by rw [v2 98 52 (by omega)]; exact hN)) q4 (by rw [F4.2.2]; exact g3)
        have o := offM (v := m5) hD2 (rwS m2 K) (rwS m2 N) (vI_of (q5 98 32 (by omega))) (fun a ha => ⟨vI_of (q5 125 a (by omega)), by rw [F5.v 150 a (by unfold DynF; omega), c4 a (by omega)]; exact (r3 a ha).1, (r5 a ha).1, (rK a ha).1, (rN a ha).1⟩) u g2
        rw [e5, qbV_s, o]
        exact wp_s ⟨rfl, RAll.go A2 gb2 q5 g5⟩
      obtain ⟨x9, m9, e9, hx9, A9⟩ := fin
      refine ⟨x9, m2, m9, ?_, ?_, A9⟩
      · rw [hx9, fX11_off_d]
        simp (disch := omega) only [fX11_off_0, fX9_size_d, fX9_size_0, qbI_s, qbL_s, qbV_s, qbR_s, qbR_n, qbN_s, qbN_n, qbIX_s, qbIX_n, qbVX_s, qbVX_n, cond_true, cond_false, cond_dec, jadd, jsub, jmul, jneg, li_0, li_1, li_2, li_3, li_4, li_5, li_6, li_7, li_8, li_9, li_10, li_14, li_15, li_16, li_19, li_20, li_24, li_30, li_31, li_32, li_39, li_40, li_48, li_57, li_59, li_60, li_63, li_65, li_80, li_81, li_90, li_97, li_99, li_100, li_122, li_126, li_127, li_150, li_160, li_200, li_225, li_255, li_400, li_799, li_800, li_999, li_2400, li_3239, li_3240, li_1048575, li_1431655765, li_858993459, li_252645135, eqb_j, ltb_j, leb_j, inb_j, ix_j, ix_n, nz_b, nz_0, nz_1, eqb_b, bnot, vI_ne, vI_eq, gIL, gLI, gIR, gRI, gLR, gRL, Int.reduceLT, Int.reduceLE, Int.reduceEq, Int.reduceAdd, Int.reduceSub, Int.reduceMul, Int.reduceNeg, Int.reduceToNat, Nat.reduceEqDiff, reduceIte, if_neg, if_pos, gI_ne, mC, gIv 0, b1, gb, btr, k1, e1, gIv 74, s5, e2, cls]
      · rw [fX13_off_d]
        simp (disch := omega) only [fX13_off_0, qbI_s, qbL_s, qbV_s, qbR_s, qbR_n, qbN_s, qbN_n, qbIX_s, qbIX_n, qbVX_s, qbVX_n, cond_true, cond_false, cond_dec, jadd, jsub, jmul, jneg, li_0, li_1, li_2, li_3, li_4, li_5, li_6, li_7, li_8, li_9, li_10, li_14, li_15, li_16, li_19, li_20, li_24, li_30, li_31, li_32, li_39, li_40, li_48, li_57, li_59, li_60, li_63, li_65, li_80, li_81, li_90, li_97, li_99, li_100, li_122, li_126, li_127, li_150, li_160, li_200, li_225, li_255, li_400, li_799, li_800, li_999, li_2400, li_3239, li_3240, li_1048575, li_1431655765, li_858993459, li_252645135, eqb_j, ltb_j, leb_j, inb_j, ix_j, ix_n, nz_b, nz_0, nz_1, eqb_b, bnot, vI_ne, vI_eq, gIL, gLI, gIR, gRI, gLR, gRL, Int.reduceLT, Int.reduceLE, Int.reduceEq, Int.reduceAdd, Int.reduceSub, Int.reduceMul, Int.reduceNeg, Int.reduceToNat, Nat.reduceEqDiff, reduceIte, if_neg, if_pos, gI_ne, mM2, gIv 98, gb2, btr, e3]
        exact e9
    · have gb0 : vI m 98 33 = 0 := by omega
      refine QOp.all h (QOp.same (x := Zi (-4)) hR ?_ ?_)
      · rw [fX11_off_d]
        simp (disch := omega) only [fX11_off_0, qbI_s, qbL_s, qbV_s, qbR_s, qbR_n, qbN_s, qbN_n, qbIX_s, qbIX_n, qbVX_s, qbVX_n, cond_true, cond_false, cond_dec, jadd, jsub, jmul, jneg, li_0, li_1, li_2, li_3, li_4, li_5, li_6, li_7, li_8, li_9, li_10, li_14, li_15, li_16, li_19, li_20, li_24, li_30, li_31, li_32, li_39, li_40, li_48, li_57, li_59, li_60, li_63, li_65, li_80, li_81, li_90, li_97, li_99, li_100, li_122, li_126, li_127, li_150, li_160, li_200, li_225, li_255, li_400, li_799, li_800, li_999, li_2400, li_3239, li_3240, li_1048575, li_1431655765, li_858993459, li_252645135, eqb_j, ltb_j, leb_j, inb_j, ix_j, ix_n, nz_b, nz_0, nz_1, eqb_b, bnot, vI_ne, vI_eq, gIL, gLI, gIR, gRI, gLR, gRL, Int.reduceLT, Int.reduceLE, Int.reduceEq, Int.reduceAdd, Int.reduceSub, Int.reduceMul, Int.reduceNeg, Int.reduceToNat, Nat.reduceEqDiff, reduceIte, if_neg, if_pos, gI_ne, mC, gIv 0, b1, gb0, btr, show (-4 : Int32) = Zi (-4) from rfl]
      · rw [fX13_off_d]
        simp (disch := omega) only [fX13_off_0, qbI_s, qbL_s, qbV_s, qbR_s, qbR_n, qbN_s, qbN_n, qbIX_s, qbIX_n, qbVX_s, qbVX_n, cond_true, cond_false, cond_dec, jadd, jsub, jmul, jneg, li_0, li_1, li_2, li_3, li_4, li_5, li_6, li_7, li_8, li_9, li_10, li_14, li_15, li_16, li_19, li_20, li_24, li_30, li_31, li_32, li_39, li_40, li_48, li_57, li_59, li_60, li_63, li_65, li_80, li_81, li_90, li_97, li_99, li_100, li_122, li_126, li_127, li_150, li_160, li_200, li_225, li_255, li_400, li_799, li_800, li_999, li_2400, li_3239, li_3240, li_1048575, li_1431655765, li_858993459, li_252645135, eqb_j, ltb_j, leb_j, inb_j, ix_j, ix_n, nz_b, nz_0, nz_1, eqb_b, bnot, vI_ne, vI_eq, gIL, gLI, gIR, gRI, gLR, gRL, Int.reduceLT, Int.reduceLE, Int.reduceEq, Int.reduceAdd, Int.reduceSub, Int.reduceMul, Int.reduceNeg, Int.reduceToNat, Nat.reduceEqDiff, reduceIte, if_neg, if_pos, gI_ne, mM, gIv 98, gb0, btr, show (-4 : Int32) = Zi (-4) from rfl]
  · rw [decide_eq_false g2] at mC mM
    refine QOp.all h (QOp.same (x := Zi (-2)) hR ?_ ?_)
    · rw [fX11_off_d]
      simp (disch := omega) only [fX11_off_0, qbI_s, qbL_s, qbV_s, qbR_s, qbR_n, qbN_s, qbN_n, qbIX_s, qbIX_n, qbVX_s, qbVX_n, cond_true, cond_false, cond_dec, jadd, jsub, jmul, jneg, li_0, li_1, li_2, li_3, li_4, li_5, li_6, li_7, li_8, li_9, li_10, li_14, li_15, li_16, li_19, li_20, li_24, li_30, li_31, li_32, li_39, li_40, li_48, li_57, li_59, li_60, li_63, li_65, li_80, li_81, li_90, li_97, li_99, li_100, li_122, li_126, li_127, li_150, li_160, li_200, li_225, li_255, li_400, li_799, li_800, li_999, li_2400, li_3239, li_3240, li_1048575, li_1431655765, li_858993459, li_252645135, eqb_j, ltb_j, leb_j, inb_j, ix_j, ix_n, nz_b, nz_0, nz_1, eqb_b, bnot, vI_ne, vI_eq, gIL, gLI, gIR, gRI, gLR, gRL, Int.reduceLT, Int.reduceLE, Int.reduceEq, Int.reduceAdd, Int.reduceSub, Int.reduceMul, Int.reduceNeg, Int.reduceToNat, Nat.reduceEqDiff, reduceIte, if_neg, if_pos, gI_ne, mC, bf, show (-2 : Int32) = Zi (-2) from rfl]
    · rw [fX13_off_d]
      simp (disch := omega) only [fX13_off_0, qbI_s, qbL_s, qbV_s, qbR_s, qbR_n, qbN_s, qbN_n, qbIX_s, qbIX_n, qbVX_s, qbVX_n, cond_true, cond_false, cond_dec, jadd, jsub, jmul, jneg, li_0, li_1, li_2, li_3, li_4, li_5, li_6, li_7, li_8, li_9, li_10, li_14, li_15, li_16, li_19, li_20, li_24, li_30, li_31, li_32, li_39, li_40, li_48, li_57, li_59, li_60, li_63, li_65, li_80, li_81, li_90, li_97, li_99, li_100, li_122, li_126, li_127, li_150, li_160, li_200, li_225, li_255, li_400, li_799, li_800, li_999, li_2400, li_3239, li_3240, li_1048575, li_1431655765, li_858993459, li_252645135, eqb_j, ltb_j, leb_j, inb_j, ix_j, ix_n, nz_b, nz_0, nz_1, eqb_b, bnot, vI_ne, vI_eq, gIL, gLI, gIR, gRI, gLR, gRL, Int.reduceLT, Int.reduceLE, Int.reduceEq, Int.reduceAdd, Int.reduceSub, Int.reduceMul, Int.reduceNeg, Int.reduceToNat, Nat.reduceEqDiff, reduceIte, if_neg, if_pos, gI_ne, mM, bf, show (-2 : Int32) = Zi (-2) from rfl]
