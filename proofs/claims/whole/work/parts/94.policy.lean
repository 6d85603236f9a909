/-! a policy's lines copied -/
def cpO (p i c : Nat) (w w' : qM) : Prop := ∀ j, c ≤ j → j < 4 → vI w' 105 (4 * (8 * p + i) + j) = vI w 105 (4 * (32 + i) + j) ∧ vI w' 106 (4 * (8 * p + i) + j) = vI w 106 (4 * (32 + i) + j) ∧ vI w' 107 (4 * (8 * p + i) + j) = vI w 107 (4 * (32 + i) + j)
theorem copyIn (p i : Nat) (x : Int) (hp : p < 4) (hi : i < 8) (k37 : Int32 → Int32 → Int32 → qM → Option (Int32 × qM)) (Q : Int32 → qM → Prop) : ∀ (r c g : Nat) (w : qM), c + r = 4 → r < g → (∀ w', Fr (fun y k => (y = 105 ∨ y = 106 ∨ y = 107) ∧ 4 * (8 * p + i) + c ≤ k ∧ k < 4 * (8 * p + i) + 4) w w' → cpO p i c w w' → wp (k37 (Zi p) (Zi x) (Zi ((i : Int) + 1)) w') Q) → wp (fX13_policy_76 k37 g (Zi p) (Zi x) (Zi i) (Zi (8 * (p : Int) + i)) (Zi (32 + (i : Int))) (Zi c) w) Q := by
  intro r
  induction r with
  | zero =>
    intro c g w hc hg hk
    obtain ⟨g, rfl⟩ : ∃ g', g = g' + 1 := ⟨g - 1, by omega⟩
    have nx := hk w (Fr.rf w) (fun j h1 h2 => by omega)
    simp (disch := omega) only [fX13_policy_76, qbI_s, qbL_s, qbV_s, qbR_s, qbR_n, qbN_s, qbN_n, qbIX_s, qbIX_n, qbVX_s, qbVX_n, cond_true, cond_false, cond_dec, jadd, jsub, jmul, jneg, li_0, li_1, li_2, li_3, li_4, li_5, li_6, li_7, li_8, li_9, li_10, li_14, li_15, li_16, li_19, li_20, li_24, li_30, li_31, li_32, li_39, li_40, li_48, li_57, li_59, li_60, li_63, li_65, li_80, li_81, li_90, li_97, li_99, li_100, li_122, li_126, li_127, li_150, li_160, li_200, li_225, li_255, li_400, li_799, li_800, li_999, li_2400, li_3239, li_3240, li_1048575, li_1431655765, li_858993459, li_252645135, eqb_j, ltb_j, leb_j, inb_j, ix_j, ix_n, nz_b, nz_0, nz_1, eqb_b, bnot, vI_ne, vI_eq, gIL, gLI, gIR, gRI, gLR, gRL, Int.reduceLT, Int.reduceLE, Int.reduceEq, Int.reduceAdd, Int.reduceSub, Int.reduceMul, Int.reduceNeg, Int.reduceToNat, Nat.reduceEqDiff, reduceIte, if_neg, if_pos, gI_ne]
    exact nx
  | succ r ih =>
    intro c g w hc hg hk
    obtain ⟨g, rfl⟩ : ∃ g', g = g' + 1 := ⟨g - 1, by omega⟩
    have i1 : (4 * (8 * (p : Int) + i) + c).toNat = 4 * (8 * p + i) + c := by omega
    have i2 : (4 * (32 + (i : Int)) + c).toNat = 4 * (32 + i) + c := by omega
    have r5 := vI_r w 105 (4 * (32 + i) + c)
    have r6 := vI_r w 106 (4 * (32 + i) + c)
    have r7 := vI_r w 107 (4 * (32 + i) + c)
    have nx := ih (c + 1) g (sI (sI (sI w 105 (4 * (8 * p + i) + c) (Zi (vI w 105 (4 * (32 + i) + c)))) 106 (4 * (8 * p + i) + c) (Zi (vI w 106 (4 * (32 + i) + c)))) 107 (4 * (8 * p + i) + c) (Zi (vI w 107 (4 * (32 + i) + c)))) (by omega) (by omega) (fun w' hF hO => hk w' (((((Fr.rf w).wI 105 _ _ (by omega)).wI 106 _ _ (by omega)).wI 107 _ _ (by omega)).tr (hF.wide fun y k h => by omega)) (fun j h1 h2 => by
      by_cases e : j = c
      · rw [e, hF.v 105 _ (by omega), hF.v 106 _ (by omega), hF.v 107 _ (by omega)]
        refine ⟨?_, ?_, ?_⟩
        · rw [vI_ne (by omega), vI_ne (by omega), vI_eq (by omega), if_pos rfl]
        · rw [vI_ne (by omega), vI_eq (by omega), if_pos rfl]
        · rw [vI_eq (by omega), if_pos rfl]
      · have h9 := hO j (by omega) h2
        rw [vI_ne (by omega), vI_ne (by omega), vI_nk (by omega), vI_ne (by omega), vI_nk (by omega), vI_ne (by omega), vI_nk (by omega), vI_ne (by omega), vI_ne (by omega)] at h9
        exact h9))
    simp (disch := omega) only [fX13_policy_76, qbI_s, qbL_s, qbV_s, qbR_s, qbR_n, qbN_s, qbN_n, qbIX_s, qbIX_n, qbVX_s, qbVX_n, cond_true, cond_false, cond_dec, jadd, jsub, jmul, jneg, li_0, li_1, li_2, li_3, li_4, li_5, li_6, li_7, li_8, li_9, li_10, li_14, li_15, li_16, li_19, li_20, li_24, li_30, li_31, li_32, li_39, li_40, li_48, li_57, li_59, li_60, li_63, li_65, li_80, li_81, li_90, li_97, li_99, li_100, li_122, li_126, li_127, li_150, li_160, li_200, li_225, li_255, li_400, li_799, li_800, li_999, li_2400, li_3239, li_3240, li_1048575, li_1431655765, li_858993459, li_252645135, eqb_j, ltb_j, leb_j, inb_j, ix_j, ix_n, nz_b, nz_0, nz_1, eqb_b, bnot, vI_ne, vI_eq, gIL, gLI, gIR, gRI, gLR, gRL, Int.reduceLT, Int.reduceLE, Int.reduceEq, Int.reduceAdd, Int.reduceSub, Int.reduceMul, Int.reduceNeg, Int.reduceToNat, Nat.reduceEqDiff, reduceIte, if_neg, if_pos, gI_ne, i1, i2, gIv 105, gIv 106, gIv 107]
    exact nx
def cpL (p i : Nat) (v w : qM) : Prop := vI w 102 (8 * p + i) = vI v 102 (32 + i) ∧ vI w 103 (8 * p + i) = vI v 103 (32 + i) ∧ vI w 104 (8 * p + i) = vI v 104 (32 + i) ∧ cpO p i 0 v w
def cpG (p : Nat) : Nat → Nat → Prop := fun y k => (y = 102 ∨ y = 103 ∨ y = 104) ∧ 8 * p ≤ k ∧ k < 8 * p + 8 ∨ (y = 105 ∨ y = 106 ∨ y = 107) ∧ 32 * p ≤ k ∧ k < 32 * p + 32
theorem copyL (v : qM) (p x : Nat) (hp : p < 4) (hx : x ≤ 8) : ∀ (r i g : Nat) (w : qM), i + r = x → r < g → Fr (cpG p) v w → (∀ i', i' < i → cpL p i' v w) → wp (fX13_policy_37 g (Zi p) (Zi x) (Zi i) w) (fun y w' => y = Zi x ∧ Fr (cpG p) v w' ∧ ∀ i', i' < x → cpL p i' v w') := by
  intro r
  induction r with
  | zero =>
    intro i g w hi hg hF h
    obtain ⟨g, rfl⟩ : ∃ g', g = g' + 1 := ⟨g - 1, by omega⟩
    refine wp_e (x := Zi x) (m := w) ?_ ⟨rfl, hF, fun i' h1 => h i' (by omega)⟩
    simp (disch := omega) only [fX13_policy_37, qbI_s, qbL_s, qbV_s, qbR_s, qbR_n, qbN_s, qbN_n, qbIX_s, qbIX_n, qbVX_s, qbVX_n, cond_true, cond_false, cond_dec, jadd, jsub, jmul, jneg, li_0, li_1, li_2, li_3, li_4, li_5, li_6, li_7, li_8, li_9, li_10, li_14, li_15, li_16, li_19, li_20, li_24, li_30, li_31, li_32, li_39, li_40, li_48, li_57, li_59, li_60, li_63, li_65, li_80, li_81, li_90, li_97, li_99, li_100, li_122, li_126, li_127, li_150, li_160, li_200, li_225, li_255, li_400, li_799, li_800, li_999, li_2400, li_3239, li_3240, li_1048575, li_1431655765, li_858993459, li_252645135, eqb_j, ltb_j, leb_j, inb_j, ix_j, ix_n, nz_b, nz_0, nz_1, eqb_b, bnot, vI_ne, vI_eq, gIL, gLI, gIR, gRI, gLR, gRL, Int.reduceLT, Int.reduceLE, Int.reduceEq, Int.reduceAdd, Int.reduceSub, Int.reduceMul, Int.reduceNeg, Int.reduceToNat, Nat.reduceEqDiff, reduceIte, if_neg, if_pos, gI_ne]
  | succ r ih =>
    intro i g w hi hg hF h
    obtain ⟨g, rfl⟩ : ∃ g', g = g' + 1 := ⟨g - 1, by omega⟩
    have i1 : (8 * (p : Int) + i).toNat = 8 * p + i := by omega
    have i2 : (32 + (i : Int)).toNat = 32 + i := by omega
    have r5 := vI_r w 102 (32 + i)
    have r6 := vI_r w 103 (32 + i)
    have r7 := vI_r w 104 (32 + i)
    obtain ⟨w1, hw1⟩ : ∃ w1 : qM, w1 = sI (sI (sI w 102 (8 * p + i) (Zi (vI w 102 (32 + i)))) 103 (8 * p + i) (Zi (vI w 103 (32 + i)))) 104 (8 * p + i) (Zi (vI w 104 (32 + i))) := ⟨_, rfl⟩
    have F1 : Fr (fun y k => (y = 102 ∨ y = 103 ∨ y = 104) ∧ k = 8 * p + i) w w1 := by
      rw [hw1]
      exact (((Fr.rf w).wI 102 _ _ (by omega)).wI 103 _ _ (by omega)).wI 104 _ _ (by omega)
    have nx := copyIn p i x hp (by omega) (fX13_policy_37 g) (fun y w' => y = Zi x ∧ Fr (cpG p) v w' ∧ ∀ i', i' < x → cpL p i' v w') 4 0 FU w1 rfl (by rw [FU_d]; omega) (fun w' hF' hO => by
      refine ih (i + 1) g w' (by omega) (by omega) ((hF.tr (F1.wide fun y k h => by unfold cpG; omega)).tr (hF'.wide fun y k h => by unfold cpG; omega)) (fun i' h1 => ?_)
      by_cases e : i' = i
      · rw [e]
        refine ⟨?_, ?_, ?_, fun j h1 h2 => ?_⟩
        · rw [hF'.v 102 _ (by omega), hw1, vI_ne (by omega), vI_ne (by omega), vI_eq (by omega), if_pos rfl, hF.v 102 _ (by unfold cpG; omega)]
        · rw [hF'.v 103 _ (by omega), hw1, vI_ne (by omega), vI_eq (by omega), if_pos rfl, hF.v 103 _ (by unfold cpG; omega)]
        · rw [hF'.v 104 _ (by omega), hw1, vI_eq (by omega), if_pos rfl, hF.v 104 _ (by unfold cpG; omega)]
        · have h9 := hO j h1 h2
          rw [F1.v 105 _ (by omega), F1.v 106 _ (by omega), F1.v 107 _ (by omega), hF.v 105 _ (by unfold cpG; omega), hF.v 106 _ (by unfold cpG; omega), hF.v 107 _ (by unfold cpG; omega)] at h9
          exact h9
      · obtain ⟨k1, k2, k3, k4⟩ := h i' (by omega)
        refine ⟨?_, ?_, ?_, fun j h1 h2 => ?_⟩
        · rw [hF'.v 102 _ (by omega), F1.v 102 _ (by omega), k1]
        · rw [hF'.v 103 _ (by omega), F1.v 103 _ (by omega), k2]
        · rw [hF'.v 104 _ (by omega), F1.v 104 _ (by omega), k3]
        · have h9 := k4 j h1 h2
          rw [hF'.v 105 _ (by omega), hF'.v 106 _ (by omega), hF'.v 107 _ (by omega), F1.v 105 _ (by omega), F1.v 106 _ (by omega), F1.v 107 _ (by omega)]
          exact h9)
    rw [hw1] at nx
    simp (disch := omega) only [fX13_policy_37, qbI_s, qbL_s, qbV_s, qbR_s, qbR_n, qbN_s, qbN_n, qbIX_s, qbIX_n, qbVX_s, qbVX_n, cond_true, cond_false, cond_dec, jadd, jsub, jmul, jneg, li_0, li_1, li_2, li_3, li_4, li_5, li_6, li_7, li_8, li_9, li_10, li_14, li_15, li_16, li_19, li_20, li_24, li_30, li_31, li_32, li_39, li_40, li_48, li_57, li_59, li_60, li_63, li_65, li_80, li_81, li_90, li_97, li_99, li_100, li_122, li_126, li_127, li_150, li_160, li_200, li_225, li_255, li_400, li_799, li_800, li_999, li_2400, li_3239, li_3240, li_1048575, li_1431655765, li_858993459, li_252645135, eqb_j, ltb_j, leb_j, inb_j, ix_j, ix_n, nz_b, nz_0, nz_1, eqb_b, bnot, vI_ne, vI_eq, gIL, gLI, gIR, gRI, gLR, gRL, Int.reduceLT, Int.reduceLE, Int.reduceEq, Int.reduceAdd, Int.reduceSub, Int.reduceMul, Int.reduceNeg, Int.reduceToNat, Nat.reduceEqDiff, reduceIte, if_neg, if_pos, gI_ne, i1, i2, gIv 102, gIv 103, gIv 104]
    exact nx
