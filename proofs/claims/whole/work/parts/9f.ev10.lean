/-! the evening: what it begins with, the reference; put together -/
theorem fill90 {m0 w0 : qM} (hR : R0 m0) (hW : Fr evF m0 w0) (K : Nat) (hK : (K : Int) ≤ vI m0 98 52) : (∀ a : Nat, (a : Int) < vI m0 98 32 → (vI w0 90 a = -1 ∧ inE (vI m0) 0 139 a = ftV (vI m0) (vI m0 124 a).toNat) ∨ vI w0 90 a = inE (vI m0) 0 139 a) → wp (fX9_fill_90 (Zi 0) (Zi K) w0) (fun _ w' => Fr (fun c _ => c = 90) w0 w' ∧ (∀ a : Nat, (a : Int) < vI m0 98 32 → (vI w' 90 a = -1 ∧ inE (vI m0) K 139 a = ftV (vI m0) (vI m0 124 a).toNat) ∨ vI w' 90 a = inE (vI m0) K 139 a)) := by
  obtain ⟨e1, e2, e3, e4, e5, e6⟩ := hR.2.2.2.1
  have n1 := hR.2.2.1.1.2.1
  have n2 := hR.2.2.1.1.2.2.1
  have n9 : Int32.ofNat 40 = Zi 40 := rfl
  have key : ∀ (r i g : Nat) (w : qM), i + r = K → r < g → Fr (fun c _ => c = 90) w0 w → (∀ a : Nat, (a : Int) < vI m0 98 32 → (vI w 90 a = -1 ∧ inE (vI m0) i 139 a = ftV (vI m0) (vI m0 124 a).toNat) ∨ vI w 90 a = inE (vI m0) i 139 a) → wp (fX9_fill_90_2 fX9_fill_90_38 g (Zi 0) (Zi K) (Zi i) w) (fun _ w' => Fr (fun c _ => c = 90) w0 w' ∧ (∀ a : Nat, (a : Int) < vI m0 98 32 → (vI w' 90 a = -1 ∧ inE (vI m0) K 139 a = ftV (vI m0) (vI m0 124 a).toNat) ∨ vI w' 90 a = inE (vI m0) K 139 a)) := by
    intro r
    induction r with
    | zero =>
      intro i g w hi hg hF h1
      obtain ⟨g, rfl⟩ : ∃ g', g = g' + 1 := ⟨g - 1, by omega⟩
      have : i = K := by omega
      subst this
      refine wp_e (x := ()) (m := w) ?_ ⟨hF, h1⟩
      simp (disch := omega) only [fX9_fill_90_2, fX9_fill_90_38, qbI_s, qbL_s, qbV_s, qbR_s, qbR_n, qbN_s, qbN_n, qbIX_s, qbIX_n, qbVX_s, qbVX_n, cond_true, cond_false, cond_dec, jadd, jsub, jmul, jneg, li_0, li_1, li_2, li_3, li_4, li_5, li_6, li_7, li_8, li_9, li_10, li_14, li_15, li_16, li_19, li_20, li_24, li_30, li_31, li_32, li_39, li_40, li_48, li_57, li_59, li_60, li_63, li_65, li_80, li_81, li_90, li_97, li_99, li_100, li_122, li_126, li_127, li_150, li_160, li_200, li_225, li_255, li_400, li_799, li_800, li_999, li_2400, li_3239, li_3240, li_1048575, li_1431655765, li_858993459, li_252645135, eqb_j, ltb_j, leb_j, inb_j, ix_j, ix_n, nz_b, nz_0, nz_1, eqb_b, bnot, vI_ne, vI_eq, gIL, gLI, gIR, gRI, gLR, gRL, Int.reduceLT, Int.reduceLE, Int.reduceEq, Int.reduceAdd, Int.reduceSub, Int.reduceMul, Int.reduceNeg, Int.reduceToNat, Nat.reduceEqDiff, reduceIte, if_neg, if_pos, gI_ne]
    | succ r ih =>
      intro i g w hi hg hF h1
      obtain ⟨g, rfl⟩ : ∃ g', g = g' + 1 := ⟨g - 1, by omega⟩
      have c := e4 i (by omega)
      have st : ∀ c k, c ≤ 79 → vI w c k = vI m0 c k := fun c k hc => by rw [hF.v c k (by omega), hW.v c k (by unfold evF; omega)]
      have w5 : vI w 74 5 = vI m0 98 52 := by rw [st 74 5 (by omega), e1]
      have w75 : vI w 75 i = vI m0 135 i := by rw [st 75 i (by omega), c.1]
      have w77 : vI w 77 i = vI m0 136 i := by rw [st 77 i (by omega), c.2.2.1]
      have w78 : vI w 78 i = vI m0 137 i := by rw [st 78 i (by omega), c.2.2.2.1]
      have hTi := (e5 i (by omega)).2.2
      by_cases gk : vI m0 135 i = 0
      · have hq : 0 ≤ vI m0 136 i ∧ vI m0 136 i < vI m0 98 32 ∧ 0 ≤ vI m0 137 i ∧ vI m0 137 i ≤ 60 := by omega
        obtain ⟨o, ho⟩ : ∃ o : Nat, vI m0 136 i = o := ⟨(vI m0 136 i).toNat, by omega⟩
        have n := ih (i + 1) g (sI w 90 o (Zi (vI m0 137 i))) (by omega) (by omega) (Fr.wI (P := fun c _ => c = 90) hF 90 _ _ rfl) (fun a ha => by
        rw [inE_139, vI_eq (by omega)]
        by_cases e : a = o
        · rw [if_pos e, if_pos ⟨gk, by omega⟩]; exact Or.inr rfl
        · rw [if_neg e, if_neg (fun z => e (by omega))]; exact h1 a ha)
        have wi : fX11_within (Zi o) (Zi 0) (Zi 39) w = some (Zi 1, w) := by
          rw [within_s _ _ _ (by omega), decide_eq_true (by omega)]
          rfl
        simp (disch := omega) only [fX9_fill_90_2, fX9_fill_90_36, qbI_s, qbL_s, qbV_s, qbR_s, qbR_n, qbN_s, qbN_n, qbIX_s, qbIX_n, qbVX_s, qbVX_n, cond_true, cond_false, cond_dec, jadd, jsub, jmul, jneg, li_0, li_1, li_2, li_3, li_4, li_5, li_6, li_7, li_8, li_9, li_10, li_14, li_15, li_16, li_19, li_20, li_24, li_30, li_31, li_32, li_39, li_40, li_48, li_57, li_59, li_60, li_63, li_65, li_80, li_81, li_90, li_97, li_99, li_100, li_122, li_126, li_127, li_150, li_160, li_200, li_225, li_255, li_400, li_799, li_800, li_999, li_2400, li_3239, li_3240, li_1048575, li_1431655765, li_858993459, li_252645135, eqb_j, ltb_j, leb_j, inb_j, ix_j, ix_n, nz_b, nz_0, nz_1, eqb_b, bnot, vI_ne, vI_eq, gIL, gLI, gIR, gRI, gLR, gRL, Int.reduceLT, Int.reduceLE, Int.reduceEq, Int.reduceAdd, Int.reduceSub, Int.reduceMul, Int.reduceNeg, Int.reduceToNat, Nat.reduceEqDiff, reduceIte, if_neg, if_pos, gI_ne, gIv 74, w5, gIv 75, w75, gk, gIv 77, w77, ho, gIv 78, w78, n9, wi]
        exact n
      · have n := ih (i + 1) g w (by omega) (by omega) hF (fun a ha => by rw [inE_139, if_neg (fun z => gk z.1)]; exact h1 a ha)
        simp (disch := omega) only [fX9_fill_90_2, fX9_fill_90_36, qbI_s, qbL_s, qbV_s, qbR_s, qbR_n, qbN_s, qbN_n, qbIX_s, qbIX_n, qbVX_s, qbVX_n, cond_true, cond_false, cond_dec, jadd, jsub, jmul, jneg, li_0, li_1, li_2, li_3, li_4, li_5, li_6, li_7, li_8, li_9, li_10, li_14, li_15, li_16, li_19, li_20, li_24, li_30, li_31, li_32, li_39, li_40, li_48, li_57, li_59, li_60, li_63, li_65, li_80, li_81, li_90, li_97, li_99, li_100, li_122, li_126, li_127, li_150, li_160, li_200, li_225, li_255, li_400, li_799, li_800, li_999, li_2400, li_3239, li_3240, li_1048575, li_1431655765, li_858993459, li_252645135, eqb_j, ltb_j, leb_j, inb_j, ix_j, ix_n, nz_b, nz_0, nz_1, eqb_b, bnot, vI_ne, vI_eq, gIL, gLI, gIR, gRI, gLR, gRL, Int.reduceLT, Int.reduceLE, Int.reduceEq, Int.reduceAdd, Int.reduceSub, Int.reduceMul, Int.reduceNeg, Int.reduceToNat, Nat.reduceEqDiff, reduceIte, if_neg, if_pos, gI_ne, gIv 74, w5, gIv 75, w75]
        exact n
  intro h0
  rw [fX9_fill_90_d]
  simp only [fX9_fill_90_0]
  exact key K 0 FU w0 (by omega) (by rw [FU_d]; omega) (Fr.rf w0) h0

theorem fill91 {m0 w0 : qM} (hR : R0 m0) (hW : Fr evF m0 w0) (K : Nat) (hK : (K : Int) ≤ vI m0 98 52) : (∀ a : Nat, (a : Int) < vI m0 98 32 → vI w0 91 a = inE (vI m0) 0 148 a) → wp (fX9_fill_91 (Zi 1) (Zi K) w0) (fun _ w' => Fr (fun c _ => c = 91) w0 w' ∧ (∀ a : Nat, (a : Int) < vI m0 98 32 → vI w' 91 a = inE (vI m0) K 148 a)) := by
  obtain ⟨e1, e2, e3, e4, e5, e6⟩ := hR.2.2.2.1
  have n1 := hR.2.2.1.1.2.1
  have n2 := hR.2.2.1.1.2.2.1
  have n9 : Int32.ofNat 40 = Zi 40 := rfl
  have key : ∀ (r i g : Nat) (w : qM), i + r = K → r < g → Fr (fun c _ => c = 91) w0 w → (∀ a : Nat, (a : Int) < vI m0 98 32 → vI w 91 a = inE (vI m0) i 148 a) → wp (fX9_fill_91_2 fX9_fill_91_38 g (Zi 1) (Zi K) (Zi i) w) (fun _ w' => Fr (fun c _ => c = 91) w0 w' ∧ (∀ a : Nat, (a : Int) < vI m0 98 32 → vI w' 91 a = inE (vI m0) K 148 a)) := by
    intro r
    induction r with
    | zero =>
      intro i g w hi hg hF h1
      obtain ⟨g, rfl⟩ : ∃ g', g = g' + 1 := ⟨g - 1, by omega⟩
      have : i = K := by omega
      subst this
      refine wp_e (x := ()) (m := w) ?_ ⟨hF, h1⟩
      simp (disch := omega) only [fX9_fill_91_2, fX9_fill_91_38, qbI_s, qbL_s, qbV_s, qbR_s, qbR_n, qbN_s, qbN_n, qbIX_s, qbIX_n, qbVX_s, qbVX_n, cond_true, cond_false, cond_dec, jadd, jsub, jmul, jneg, li_0, li_1, li_2, li_3, li_4, li_5, li_6, li_7, li_8, li_9, li_10, li_14, li_15, li_16, li_19, li_20, li_24, li_30, li_31, li_32, li_39, li_40, li_48, li_57, li_59, li_60, li_63, li_65, li_80, li_81, li_90, li_97, li_99, li_100, li_122, li_126, li_127, li_150, li_160, li_200, li_225, li_255, li_400, li_799, li_800, li_999, li_2400, li_3239, li_3240, li_1048575, li_1431655765, li_858993459, li_252645135, eqb_j, ltb_j, leb_j, inb_j, ix_j, ix_n, nz_b, nz_0, nz_1, eqb_b, bnot, vI_ne, vI_eq, gIL, gLI, gIR, gRI, gLR, gRL, Int.reduceLT, Int.reduceLE, Int.reduceEq, Int.reduceAdd, Int.reduceSub, Int.reduceMul, Int.reduceNeg, Int.reduceToNat, Nat.reduceEqDiff, reduceIte, if_neg, if_pos, gI_ne]
    | succ r ih =>
      intro i g w hi hg hF h1
      obtain ⟨g, rfl⟩ : ∃ g', g = g' + 1 := ⟨g - 1, by omega⟩
      have c := e4 i (by omega)
      have st : ∀ c k, c ≤ 79 → vI w c k = vI m0 c k := fun c k hc => by rw [hF.v c k (by omega), hW.v c k (by unfold evF; omega)]
      have w5 : vI w 74 5 = vI m0 98 52 := by rw [st 74 5 (by omega), e1]
      have w75 : vI w 75 i = vI m0 135 i := by rw [st 75 i (by omega), c.1]
      have w77 : vI w 77 i = vI m0 136 i := by rw [st 77 i (by omega), c.2.2.1]
      have w78 : vI w 78 i = vI m0 137 i := by rw [st 78 i (by omega), c.2.2.2.1]
      have hTi := (e5 i (by omega)).2.2
      by_cases gk : vI m0 135 i = 1
      · have hq : 0 ≤ vI m0 136 i ∧ vI m0 136 i < vI m0 98 32 ∧ (vI m0 137 i = 0 ∨ vI m0 137 i = 1) := by omega
        obtain ⟨o, ho⟩ : ∃ o : Nat, vI m0 136 i = o := ⟨(vI m0 136 i).toNat, by omega⟩
        have n := ih (i + 1) g (sI w 91 o (Zi (vI m0 137 i))) (by omega) (by omega) (Fr.wI (P := fun c _ => c = 91) hF 91 _ _ rfl) (fun a ha => by
        rw [inE_148, vI_eq (by omega)]
        by_cases e : a = o
        · rw [if_pos e, if_pos ⟨gk, by omega⟩]
        · rw [if_neg e, if_neg (fun z => e (by omega))]; exact h1 a ha)
        have wi : fX11_within (Zi o) (Zi 0) (Zi 39) w = some (Zi 1, w) := by
          rw [within_s _ _ _ (by omega), decide_eq_true (by omega)]
          rfl
        simp (disch := omega) only [fX9_fill_91_2, fX9_fill_91_36, qbI_s, qbL_s, qbV_s, qbR_s, qbR_n, qbN_s, qbN_n, qbIX_s, qbIX_n, qbVX_s, qbVX_n, cond_true, cond_false, cond_dec, jadd, jsub, jmul, jneg, li_0, li_1, li_2, li_3, li_4, li_5, li_6, li_7, li_8, li_9, li_10, li_14, li_15, li_16, li_19, li_20, li_24, li_30, li_31, li_32, li_39, li_40, li_48, li_57, li_59, li_60, li_63, li_65, li_80, li_81, li_90, li_97, li_99, li_100, li_122, li_126, li_127, li_150, li_160, li_200, li_225, li_255, li_400, li_799, li_800, li_999, li_2400, li_3239, li_3240, li_1048575, li_1431655765, li_858993459, li_252645135, eqb_j, ltb_j, leb_j, inb_j, ix_j, ix_n, nz_b, nz_0, nz_1, eqb_b, bnot, vI_ne, vI_eq, gIL, gLI, gIR, gRI, gLR, gRL, Int.reduceLT, Int.reduceLE, Int.reduceEq, Int.reduceAdd, Int.reduceSub, Int.reduceMul, Int.reduceNeg, Int.reduceToNat, Nat.reduceEqDiff, reduceIte, if_neg, if_pos, gI_ne, gIv 74, w5, gIv 75, w75, gk, gIv 77, w77, ho, gIv 78, w78, n9, wi]
        exact n
      · have n := ih (i + 1) g w (by omega) (by omega) hF (fun a ha => by rw [inE_148, if_neg (fun z => gk z.1)]; exact h1 a ha)
        simp (disch := omega) only [fX9_fill_91_2, fX9_fill_91_36, qbI_s, qbL_s, qbV_s, qbR_s, qbR_n, qbN_s, qbN_n, qbIX_s, qbIX_n, qbVX_s, qbVX_n, cond_true, cond_false, cond_dec, jadd, jsub, jmul, jneg, li_0, li_1, li_2, li_3, li_4, li_5, li_6, li_7, li_8, li_9, li_10, li_14, li_15, li_16, li_19, li_20, li_24, li_30, li_31, li_32, li_39, li_40, li_48, li_57, li_59, li_60, li_63, li_65, li_80, li_81, li_90, li_97, li_99, li_100, li_122, li_126, li_127, li_150, li_160, li_200, li_225, li_255, li_400, li_799, li_800, li_999, li_2400, li_3239, li_3240, li_1048575, li_1431655765, li_858993459, li_252645135, eqb_j, ltb_j, leb_j, inb_j, ix_j, ix_n, nz_b, nz_0, nz_1, eqb_b, bnot, vI_ne, vI_eq, gIL, gLI, gIR, gRI, gLR, gRL, Int.reduceLT, Int.reduceLE, Int.reduceEq, Int.reduceAdd, Int.reduceSub, Int.reduceMul, Int.reduceNeg, Int.reduceToNat, Nat.reduceEqDiff, reduceIte, if_neg, if_pos, gI_ne, gIv 74, w5, gIv 75, w75]
        exact n
  intro h0
  rw [fX9_fill_91_d]
  simp only [fX9_fill_91_0]
  exact key K 0 FU w0 (by omega) (by rw [FU_d]; omega) (Fr.rf w0) h0

theorem fill92 {m0 w0 : qM} (hR : R0 m0) (hW : Fr evF m0 w0) (K : Nat) (hK : (K : Int) ≤ vI m0 98 52) : (∀ a : Nat, a < 15 → vI w0 92 a = inE (vI m0) 0 140 a) → wp (fX9_fill_92 (Zi 2) (Zi K) w0) (fun _ w' => Fr (fun c _ => c = 92) w0 w' ∧ (∀ a : Nat, a < 15 → vI w' 92 a = inE (vI m0) K 140 a)) := by
  obtain ⟨e1, e2, e3, e4, e5, e6⟩ := hR.2.2.2.1
  have n1 := hR.2.2.1.1.2.1
  have n2 := hR.2.2.1.1.2.2.1
  have n9 : Int32.ofNat 15 = Zi 15 := rfl
  have key : ∀ (r i g : Nat) (w : qM), i + r = K → r < g → Fr (fun c _ => c = 92) w0 w → (∀ a : Nat, a < 15 → vI w 92 a = inE (vI m0) i 140 a) → wp (fX9_fill_92_2 fX9_fill_92_38 g (Zi 2) (Zi K) (Zi i) w) (fun _ w' => Fr (fun c _ => c = 92) w0 w' ∧ (∀ a : Nat, a < 15 → vI w' 92 a = inE (vI m0) K 140 a)) := by
    intro r
    induction r with
    | zero =>
      intro i g w hi hg hF h1
      obtain ⟨g, rfl⟩ : ∃ g', g = g' + 1 := ⟨g - 1, by omega⟩
      have : i = K := by omega
      subst this
      refine wp_e (x := ()) (m := w) ?_ ⟨hF, h1⟩
      simp (disch := omega) only [fX9_fill_92_2, fX9_fill_92_38, qbI_s, qbL_s, qbV_s, qbR_s, qbR_n, qbN_s, qbN_n, qbIX_s, qbIX_n, qbVX_s, qbVX_n, cond_true, cond_false, cond_dec, jadd, jsub, jmul, jneg, li_0, li_1, li_2, li_3, li_4, li_5, li_6, li_7, li_8, li_9, li_10, li_14, li_15, li_16, li_19, li_20, li_24, li_30, li_31, li_32, li_39, li_40, li_48, li_57, li_59, li_60, li_63, li_65, li_80, li_81, li_90, li_97, li_99, li_100, li_122, li_126, li_127, li_150, li_160, li_200, li_225, li_255, li_400, li_799, li_800, li_999, li_2400, li_3239, li_3240, li_1048575, li_1431655765, li_858993459, li_252645135, eqb_j, ltb_j, leb_j, inb_j, ix_j, ix_n, nz_b, nz_0, nz_1, eqb_b, bnot, vI_ne, vI_eq, gIL, gLI, gIR, gRI, gLR, gRL, Int.reduceLT, Int.reduceLE, Int.reduceEq, Int.reduceAdd, Int.reduceSub, Int.reduceMul, Int.reduceNeg, Int.reduceToNat, Nat.reduceEqDiff, reduceIte, if_neg, if_pos, gI_ne]
    | succ r ih =>
      intro i g w hi hg hF h1
      obtain ⟨g, rfl⟩ : ∃ g', g = g' + 1 := ⟨g - 1, by omega⟩
      have c := e4 i (by omega)
      have st : ∀ c k, c ≤ 79 → vI w c k = vI m0 c k := fun c k hc => by rw [hF.v c k (by omega), hW.v c k (by unfold evF; omega)]
      have w5 : vI w 74 5 = vI m0 98 52 := by rw [st 74 5 (by omega), e1]
      have w75 : vI w 75 i = vI m0 135 i := by rw [st 75 i (by omega), c.1]
      have w77 : vI w 77 i = vI m0 136 i := by rw [st 77 i (by omega), c.2.2.1]
      have w78 : vI w 78 i = vI m0 137 i := by rw [st 78 i (by omega), c.2.2.2.1]
      have hTi := (e5 i (by omega)).2.2
      by_cases gk : vI m0 135 i = 2
      · have hq : 0 ≤ vI m0 136 i ∧ vI m0 136 i ≤ 14 ∧ 0 ≤ vI m0 137 i ∧ vI m0 137 i ≤ 799 := by omega
        obtain ⟨o, ho⟩ : ∃ o : Nat, vI m0 136 i = o := ⟨(vI m0 136 i).toNat, by omega⟩
        have n := ih (i + 1) g (sI w 92 o (Zi (vI m0 137 i))) (by omega) (by omega) (Fr.wI (P := fun c _ => c = 92) hF 92 _ _ rfl) (fun a ha => by
        rw [inE_140, vI_eq (by omega)]
        by_cases e : a = o
        · rw [if_pos e, if_pos ⟨gk, by omega⟩]
        · rw [if_neg e, if_neg (fun z => e (by omega))]; exact h1 a ha)
        have wi : fX11_within (Zi o) (Zi 0) (Zi 14) w = some (Zi 1, w) := by
          rw [within_s _ _ _ (by omega), decide_eq_true (by omega)]
          rfl
        simp (disch := omega) only [fX9_fill_92_2, fX9_fill_92_36, qbI_s, qbL_s, qbV_s, qbR_s, qbR_n, qbN_s, qbN_n, qbIX_s, qbIX_n, qbVX_s, qbVX_n, cond_true, cond_false, cond_dec, jadd, jsub, jmul, jneg, li_0, li_1, li_2, li_3, li_4, li_5, li_6, li_7, li_8, li_9, li_10, li_14, li_15, li_16, li_19, li_20, li_24, li_30, li_31, li_32, li_39, li_40, li_48, li_57, li_59, li_60, li_63, li_65, li_80, li_81, li_90, li_97, li_99, li_100, li_122, li_126, li_127, li_150, li_160, li_200, li_225, li_255, li_400, li_799, li_800, li_999, li_2400, li_3239, li_3240, li_1048575, li_1431655765, li_858993459, li_252645135, eqb_j, ltb_j, leb_j, inb_j, ix_j, ix_n, nz_b, nz_0, nz_1, eqb_b, bnot, vI_ne, vI_eq, gIL, gLI, gIR, gRI, gLR, gRL, Int.reduceLT, Int.reduceLE, Int.reduceEq, Int.reduceAdd, Int.reduceSub, Int.reduceMul, Int.reduceNeg, Int.reduceToNat, Nat.reduceEqDiff, reduceIte, if_neg, if_pos, gI_ne, gIv 74, w5, gIv 75, w75, gk, gIv 77, w77, ho, gIv 78, w78, n9, wi]
        exact n
      · have n := ih (i + 1) g w (by omega) (by omega) hF (fun a ha => by rw [inE_140, if_neg (fun z => gk z.1)]; exact h1 a ha)
        simp (disch := omega) only [fX9_fill_92_2, fX9_fill_92_36, qbI_s, qbL_s, qbV_s, qbR_s, qbR_n, qbN_s, qbN_n, qbIX_s, qbIX_n, qbVX_s, qbVX_n, cond_true, cond_false, cond_dec, jadd, jsub, jmul, jneg, li_0, li_1, li_2, li_3, li_4, li_5, li_6, li_7, li_8, li_9, li_10, li_14, li_15, li_16, li_19, li_20, li_24, li_30, li_31, li_32, li_39, li_40, li_48, li_57, li_59, li_60, li_63, li_65, li_80, li_81, li_90, li_97, li_99, li_100, li_122, li_126, li_127, li_150, li_160, li_200, li_225, li_255, li_400, li_799, li_800, li_999, li_2400, li_3239, li_3240, li_1048575, li_1431655765, li_858993459, li_252645135, eqb_j, ltb_j, leb_j, inb_j, ix_j, ix_n, nz_b, nz_0, nz_1, eqb_b, bnot, vI_ne, vI_eq, gIL, gLI, gIR, gRI, gLR, gRL, Int.reduceLT, Int.reduceLE, Int.reduceEq, Int.reduceAdd, Int.reduceSub, Int.reduceMul, Int.reduceNeg, Int.reduceToNat, Nat.reduceEqDiff, reduceIte, if_neg, if_pos, gI_ne, gIv 74, w5, gIv 75, w75]
        exact n
  intro h0
  rw [fX9_fill_92_d]
  simp only [fX9_fill_92_0]
  exact key K 0 FU w0 (by omega) (by rw [FU_d]; omega) (Fr.rf w0) h0

theorem prepare_s {m0 : qM} (hR : R0 m0) (K : Nat) (hK8 : K ≤ 80) (hK : (K : Int) ≤ vI m0 98 52) : wp (fX1_prepare (Zi K) m0) (fun _ w' => CS m0 (inE (vI m0) K) K w' ∧ ∀ t, t < 10 → vI w' 86 t = 0) := by
  have hA := CAll.of hR
  have hD := DOk.of hA
  have n2 := hD.2.2.2.2.2.1
  rw [fX1_prepare_d]
  have i0 : (K : Int) * 40 = 40 * K := Int.mul_comm _ _
  simp (disch := omega) only [fX1_prepare_0, qbI_s, qbL_s, qbV_s, qbR_s, qbR_n, qbN_s, qbN_n, qbIX_s, qbIX_n, qbVX_s, qbVX_n, cond_true, cond_false, cond_dec, jadd, jsub, jmul, jneg, li_0, li_1, li_2, li_3, li_4, li_5, li_6, li_7, li_8, li_9, li_10, li_14, li_15, li_16, li_19, li_20, li_24, li_30, li_31, li_32, li_39, li_40, li_48, li_57, li_59, li_60, li_63, li_65, li_80, li_81, li_90, li_97, li_99, li_100, li_122, li_126, li_127, li_150, li_160, li_200, li_225, li_255, li_400, li_799, li_800, li_999, li_2400, li_3239, li_3240, li_1048575, li_1431655765, li_858993459, li_252645135, eqb_j, ltb_j, leb_j, inb_j, ix_j, ix_n, nz_b, nz_0, nz_1, eqb_b, bnot, vI_ne, vI_eq, gIL, gLI, gIR, gRI, gLR, gRL, Int.reduceLT, Int.reduceLE, Int.reduceEq, Int.reduceAdd, Int.reduceSub, Int.reduceMul, Int.reduceNeg, Int.reduceToNat, Nat.reduceEqDiff, reduceIte, if_neg, if_pos, gI_ne, i0]
  refine prep1 (m0 := m0) K hK8 _ _ 40 0 FU (sI (sI m0 80 9 (Zi K)) 80 8 (Zi (40 * K))) rfl (by rw [FU_d]; omega) ⟨by rw [vI_nk (by omega), vI_eq (by omega), if_pos rfl], by rw [vI_eq (by omega), if_pos rfl]⟩ (((Fr.rf m0).wI 80 _ _ (by omega)).wI 80 _ _ (by omega)) (fun j hj => by omega) (fun j _ => ⟨by rw [gI_ne (by omega), gI_ne (by omega)], by rw [gI_ne (by omega), gI_ne (by omega)]⟩) (fun w1 a0 aF a1 a2 => ?_)
  have F1 : Fr evF m0 w1 := aF.wide fun c k h => by unfold evF; omega
  refine prep2 (CS.all hR F1) _ _ 10 0 FU w1 rfl (by rw [FU_d]; omega) (Fr.rf w1) (fun j hj => by omega) (fun w2 bF b1 => ?_)
  have F2 : Fr evF m0 w2 := F1.tr (bF.wide fun c k h => by unfold evF; omega)
  refine prep3 (CS.all hR F2) _ _ 15 0 FU w2 rfl (by rw [FU_d]; omega) (Fr.rf w2) (fun j hj => by omega) (fun w3 cF c1 => ?_)
  have F3 : Fr evF m0 w3 := F2.tr (cF.wide fun c k h => by unfold evF; omega)
  refine prep4 (w0 := w3) _ 4 0 FU w3 rfl (by rw [FU_d]; omega) (Fr.rf w3) (fun j hj => by omega) (fun w4 dF d1 => ?_)
  have F4 : Fr evF m0 w4 := F3.tr (dF.wide fun c k h => by unfold evF; omega)
  have F14 : Fr (fun c _ => c = 85 ∨ c = 86 ∨ c = 87 ∨ c = 88 ∨ c = 89 ∨ c = 92) w1 w4 := ((bF.wide fun c k h => by omega).tr (cF.wide fun c k h => by omega)).tr (dF.wide fun c k h => by omega)
  have z : ∀ c k, ¬ (c = 139 ∨ c = 140 ∨ c = 148) → ¬ (c = 141 ∨ c = 146) → inE (vI m0) K c k = 0 := fun c k h1 h2 => by
    rw [inE_o _ h1]
    unfold bsE
    rw [if_neg (by omega), if_neg (by omega), if_neg h2]
  have y : ∀ c k, (c = 141 ∨ c = 146) → inE (vI m0) K c k = -1 := fun c k h => by
    rw [inE_o _ (by omega)]
    unfold bsE
    rw [if_neg (by omega), if_neg (by omega), if_pos h]
  obtain ⟨x5, w5, e5, gF, g1⟩ := fill90 hR F4 K hK (fun a ha => Or.inl ⟨by rw [F14.v 90 a (by omega)]; exact (a1 a (by omega)).2.2.1, rfl⟩)
  have F5 : Fr evF m0 w5 := F4.tr (gF.wide fun c k h => by unfold evF; omega)
  obtain ⟨x6, w6, e6, hF, h1⟩ := fill91 hR F5 K hK (fun a ha => by rw [gF.v 91 a (by omega), F14.v 91 a (by omega), (a1 a (by omega)).2.2.2]; rfl)
  have F6 : Fr evF m0 w6 := F5.tr (hF.wide fun c k h => by unfold evF; omega)
  obtain ⟨x7, w7, e7, iF, i1⟩ := fill92 hR F6 K hK (fun a ha => by rw [hF.v 92 a (by omega), gF.v 92 a (by omega), dF.v 92 a (by omega), (c1 a ha).2.2]; rfl)
  have F7 : Fr evF m0 w7 := F6.tr (iF.wide fun c k h => by unfold evF; omega)
  have F47 : Fr (fun c _ => c = 90 ∨ c = 91 ∨ c = 92) w4 w7 := ((gF.wide fun c k h => by omega).tr (hF.wide fun c k h => by omega)).tr (iF.wide fun c k h => by omega)
  have q9 : ∀ w : qM, Fr (fun c _ => c = 90 ∨ c = 91 ∨ c = 92) w4 w → gI w 80 9 = Zi K := fun w h => by rw [gIv 80, h.v 80 9 (by omega), F14.v 80 9 (by omega), a0.1]
  refine wp_e (x := ()) (m := w7) ?_ ⟨⟨F7, ⟨by rw [F47.v 80 9 (by omega), F14.v 80 9 (by omega)]; exact a0.1, by rw [F47.v 80 8 (by omega), F14.v 80 8 (by omega)]; exact a0.2⟩, fun t b ht hb => ?_, fun f hf => ⟨?_, ?_, i1 f hf⟩, fun k hk => ?_, fun a ha => ⟨?_, ?_, ?_, ?_⟩, fun j hj => ?_, fun j => by rw [F47.1 83 j (by omega), F14.1 83 j (by omega), aF.1 83 j (by omega)]⟩, fun t ht => ?_⟩
  · rw [q9 w4 (Fr.rf w4), e5, qbV_s, q9 w5 (gF.wide fun c k h => by omega), e6, qbV_s, q9 w6 ((gF.wide fun c k h => by omega).tr (hF.wide fun c k h => by omega)), e7, qbV_s]
  · rw [F47.1 85 t (by omega), dF.1 85 t (by omega), cF.1 85 t (by omega), (b1 t ht).1, F1.1 66 t (by unfold evF; omega), hA.2.2.2.2.2.2.2.2.2.1.2.1 t b ht hb, Bool.eq_iff_iff, pd_iff, pd_iff]
    constructor
    · rintro ⟨a, h1, h2, h3⟩
      exact ⟨a, ⟨h1, by omega, y 141 a (by omega), z 149 a (by omega) (by omega)⟩, h2, h3⟩
    · rintro ⟨a, h1, h2, h3⟩
      exact ⟨a, h1.1, h2, h3⟩
  · rw [F47.v 87 f (by omega), dF.v 87 f (by omega), (c1 f hf).1, z 145 f (by omega) (by omega)]
  · rw [F47.v 88 f (by omega), dF.v 88 f (by omega), (c1 f hf).2.1, y 146 f (by omega)]
  · rw [F47.v 89 k (by omega), d1 k hk, z 147 k (by omega) (by omega)]
  · rw [iF.v 90 a (by omega), hF.v 90 a (by omega)]
    exact g1 a ha
  · rw [iF.v 91 a (by omega)]
    exact h1 a ha
  · rw [F47.v 81 _ (by omega), F14.v 81 _ (by omega), (a1 a (by omega)).1, y 141 a (by omega)]
  · rw [F47.v 82 _ (by omega), F14.v 82 _ (by omega), (a1 a (by omega)).2.1, y 141 a (by omega), if_pos rfl]
  · rw [F47.1 81 _ (by omega), F14.1 81 _ (by omega), F47.1 82 _ (by omega), F14.1 82 _ (by omega)]
    exact a2 j hj
  · rw [F47.v 86 t (by omega), dF.v 86 t (by omega), cF.v 86 t (by omega), (b1 t ht).2]
