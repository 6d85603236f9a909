/-! the evening: what it begins with, the reference -/
theorem ftM2 {v : qM} {d : Nat → Nat → Int} (h : ∀ c k, dE c k → vI v c k = d c k) (hr : ∀ t, t < 10 → 0 ≤ d 132 t ∧ d 132 t ≤ 20) (t : Nat) (ht : t < 10) : fX13_foretoldOf (Zi t) v = some (Zi (ftV d t), v) := by
  have k3 := hr t ht
  have e1 := h 132 t (by unfold dE; omega)
  have i1 : (20 * (t : Int) + (d 132 t - 1) / 2).toNat = 20 * t + ((d 132 t - 1) / 2).toNat ∨ d 132 t = 0 := by omega
  rw [fX13_foretoldOf_d]
  unfold ftV
  by_cases g : d 132 t = 0
  · simp (disch := omega) only [fX13_foretoldOf_0, fX13_foretoldOf_22, qbI_s, qbL_s, qbV_s, qbR_s, qbR_n, qbN_s, qbN_n, qbIX_s, qbIX_n, qbVX_s, qbVX_n, cond_true, cond_false, cond_dec, jadd, jsub, jmul, jneg, li_0, li_1, li_2, li_3, li_4, li_5, li_6, li_7, li_8, li_9, li_10, li_14, li_15, li_16, li_19, li_20, li_24, li_30, li_31, li_32, li_39, li_40, li_48, li_57, li_59, li_60, li_63, li_65, li_80, li_81, li_90, li_97, li_99, li_100, li_122, li_126, li_127, li_150, li_160, li_200, li_225, li_255, li_400, li_799, li_800, li_999, li_2400, li_3239, li_3240, li_1048575, li_1431655765, li_858993459, li_252645135, eqb_j, ltb_j, leb_j, inb_j, ix_j, ix_n, nz_b, nz_0, nz_1, eqb_b, bnot, vI_ne, vI_eq, gIL, gLI, gIR, gRI, gLR, gRL, Int.reduceLT, Int.reduceLE, Int.reduceEq, Int.reduceAdd, Int.reduceSub, Int.reduceMul, Int.reduceNeg, Int.reduceToNat, Nat.reduceEqDiff, reduceIte, if_neg, if_pos, gI_ne, gIv 132, e1]
  · rcases i1 with i1 | i1
    · have e2 := h 133 (20 * t + ((d 132 t - 1) / 2).toNat) (by unfold dE; omega)
      simp (disch := omega) only [fX13_foretoldOf_0, fX13_foretoldOf_22, qbI_s, qbL_s, qbV_s, qbR_s, qbR_n, qbN_s, qbN_n, qbIX_s, qbIX_n, qbVX_s, qbVX_n, cond_true, cond_false, cond_dec, jadd, jsub, jmul, jneg, li_0, li_1, li_2, li_3, li_4, li_5, li_6, li_7, li_8, li_9, li_10, li_14, li_15, li_16, li_19, li_20, li_24, li_30, li_31, li_32, li_39, li_40, li_48, li_57, li_59, li_60, li_63, li_65, li_80, li_81, li_90, li_97, li_99, li_100, li_122, li_126, li_127, li_150, li_160, li_200, li_225, li_255, li_400, li_799, li_800, li_999, li_2400, li_3239, li_3240, li_1048575, li_1431655765, li_858993459, li_252645135, eqb_j, ltb_j, leb_j, inb_j, ix_j, ix_n, nz_b, nz_0, nz_1, eqb_b, bnot, vI_ne, vI_eq, gIL, gLI, gIR, gRI, gLR, gRL, Int.reduceLT, Int.reduceLE, Int.reduceEq, Int.reduceAdd, Int.reduceSub, Int.reduceMul, Int.reduceNeg, Int.reduceToNat, Nat.reduceEqDiff, reduceIte, if_neg, if_pos, gI_ne, gIv 132, gIv 133, e1, jdiv, i1, e2]
    · exact absurd i1 g

theorem thr5 {v0 : qM} (N : Nat) (hn : vI v0 98 32 = N ∧ N ≤ 40) (k9 : Int32 → qM → Option (Unit × qM)) (Q : Unit → qM → Prop) : ∀ (r a g : Nat) (v : qM), a + r = N → r < g → Fr (fun c _ => c = 141 ∨ c = 142 ∨ c = 149) v0 v → (∀ j, j < a → vI v 141 j = -1 ∧ vI v 142 j = 0 ∧ vI v 149 j = 0) → (∀ v', Fr (fun c _ => c = 141 ∨ c = 142 ∨ c = 149) v0 v' → (∀ j, j < N → vI v' 141 j = -1 ∧ vI v' 142 j = 0 ∧ vI v' 149 j = 0) → wp (k9 (Zi 0) v') Q) → wp (fX13_goThrough_5 k9 g (Zi a) v) Q := by
  intro r
  induction r with
  | zero =>
    intro a g v ha hg hF h1 hk
    obtain ⟨g, rfl⟩ : ∃ g', g = g' + 1 := ⟨g - 1, by omega⟩
    have e98 : vI v 98 32 = N := by rw [hF.v 98 32 (by omega)]; exact hn.1
    have n := hk v hF (fun j hj => h1 j (by omega))
    simp (disch := omega) only [fX13_goThrough_5, qbI_s, qbL_s, qbV_s, qbR_s, qbR_n, qbN_s, qbN_n, qbIX_s, qbIX_n, qbVX_s, qbVX_n, cond_true, cond_false, cond_dec, jadd, jsub, jmul, jneg, li_0, li_1, li_2, li_3, li_4, li_5, li_6, li_7, li_8, li_9, li_10, li_14, li_15, li_16, li_19, li_20, li_24, li_30, li_31, li_32, li_39, li_40, li_48, li_57, li_59, li_60, li_63, li_65, li_80, li_81, li_90, li_97, li_99, li_100, li_122, li_126, li_127, li_150, li_160, li_200, li_225, li_255, li_400, li_799, li_800, li_999, li_2400, li_3239, li_3240, li_1048575, li_1431655765, li_858993459, li_252645135, eqb_j, ltb_j, leb_j, inb_j, ix_j, ix_n, nz_b, nz_0, nz_1, eqb_b, bnot, vI_ne, vI_eq, gIL, gLI, gIR, gRI, gLR, gRL, Int.reduceLT, Int.reduceLE, Int.reduceEq, Int.reduceAdd, Int.reduceSub, Int.reduceMul, Int.reduceNeg, Int.reduceToNat, Nat.reduceEqDiff, reduceIte, if_neg, if_pos, gI_ne, gIv 98, e98]
    exact n
  | succ r ih =>
    intro a g v ha hg hF h1 hk
    obtain ⟨g, rfl⟩ : ∃ g', g = g' + 1 := ⟨g - 1, by omega⟩
    have e98 : vI v 98 32 = N := by rw [hF.v 98 32 (by omega)]; exact hn.1
    have n := ih (a + 1) g (sI (sI (sI v 141 a (Zi (-1))) 142 a (Zi (0))) 149 a (Zi (0))) (by omega) (by omega) (Fr.wI (P := fun c _ => c = 141 ∨ c = 142 ∨ c = 149) (Fr.wI (P := fun c _ => c = 141 ∨ c = 142 ∨ c = 149) (Fr.wI (P := fun c _ => c = 141 ∨ c = 142 ∨ c = 149) hF 141 _ _ (by omega)) 142 _ _ (by omega)) 149 _ _ (by omega)) (fun j hj => by
      rw [vI_ne (by omega), vI_ne (by omega), vI_eq (by omega), vI_ne (by omega), vI_eq (by omega), vI_ne (by omega), vI_eq (by omega), vI_ne (by omega), vI_ne (by omega)]
      by_cases e : j = a
      · rw [if_pos e, if_pos e, if_pos e]
        skip
        exact ⟨rfl, rfl, rfl⟩
      · rw [if_neg e, if_neg e, if_neg e]; exact h1 j (by omega)) hk
    simp (disch := omega) only [fX13_goThrough_5, qbI_s, qbL_s, qbV_s, qbR_s, qbR_n, qbN_s, qbN_n, qbIX_s, qbIX_n, qbVX_s, qbVX_n, cond_true, cond_false, cond_dec, jadd, jsub, jmul, jneg, li_0, li_1, li_2, li_3, li_4, li_5, li_6, li_7, li_8, li_9, li_10, li_14, li_15, li_16, li_19, li_20, li_24, li_30, li_31, li_32, li_39, li_40, li_48, li_57, li_59, li_60, li_63, li_65, li_80, li_81, li_90, li_97, li_99, li_100, li_122, li_126, li_127, li_150, li_160, li_200, li_225, li_255, li_400, li_799, li_800, li_999, li_2400, li_3239, li_3240, li_1048575, li_1431655765, li_858993459, li_252645135, eqb_j, ltb_j, leb_j, inb_j, ix_j, ix_n, nz_b, nz_0, nz_1, eqb_b, bnot, vI_ne, vI_eq, gIL, gLI, gIR, gRI, gLR, gRL, Int.reduceLT, Int.reduceLE, Int.reduceEq, Int.reduceAdd, Int.reduceSub, Int.reduceMul, Int.reduceNeg, Int.reduceToNat, Nat.reduceEqDiff, reduceIte, if_neg, if_pos, gI_ne, gIv 98, e98, show (-1 : Int32) = Zi (-1) from rfl]
    exact n

theorem thr28 {v0 : qM} (k9 : Int32 → qM → Option (Unit × qM)) (Q : Unit → qM → Prop) : ∀ (r a g : Nat) (v : qM), a + r = 10 → r < g → Fr (fun c _ => c = 143 ∨ c = 144) v0 v → (∀ j, j < a → vI v 143 j = 0 ∧ vI v 144 j = 0) → (∀ v', Fr (fun c _ => c = 143 ∨ c = 144) v0 v' → (∀ j, j < 10 → vI v' 143 j = 0 ∧ vI v' 144 j = 0) → wp (k9 (Zi 0) v') Q) → wp (fX13_goThrough_28 k9 g (Zi a) v) Q := by
  intro r
  induction r with
  | zero =>
    intro a g v ha hg hF h1 hk
    obtain ⟨g, rfl⟩ : ∃ g', g = g' + 1 := ⟨g - 1, by omega⟩
    have n := hk v hF (fun j hj => h1 j (by omega))
    simp (disch := omega) only [fX13_goThrough_28, qbI_s, qbL_s, qbV_s, qbR_s, qbR_n, qbN_s, qbN_n, qbIX_s, qbIX_n, qbVX_s, qbVX_n, cond_true, cond_false, cond_dec, jadd, jsub, jmul, jneg, li_0, li_1, li_2, li_3, li_4, li_5, li_6, li_7, li_8, li_9, li_10, li_14, li_15, li_16, li_19, li_20, li_24, li_30, li_31, li_32, li_39, li_40, li_48, li_57, li_59, li_60, li_63, li_65, li_80, li_81, li_90, li_97, li_99, li_100, li_122, li_126, li_127, li_150, li_160, li_200, li_225, li_255, li_400, li_799, li_800, li_999, li_2400, li_3239, li_3240, li_1048575, li_1431655765, li_858993459, li_252645135, eqb_j, ltb_j, leb_j, inb_j, ix_j, ix_n, nz_b, nz_0, nz_1, eqb_b, bnot, vI_ne, vI_eq, gIL, gLI, gIR, gRI, gLR, gRL, Int.reduceLT, Int.reduceLE, Int.reduceEq, Int.reduceAdd, Int.reduceSub, Int.reduceMul, Int.reduceNeg, Int.reduceToNat, Nat.reduceEqDiff, reduceIte, if_neg, if_pos, gI_ne]
    exact n
  | succ r ih =>
    intro a g v ha hg hF h1 hk
    obtain ⟨g, rfl⟩ : ∃ g', g = g' + 1 := ⟨g - 1, by omega⟩
    have n := ih (a + 1) g (sI (sI v 143 a (Zi (0))) 144 a (Zi (0))) (by omega) (by omega) (Fr.wI (P := fun c _ => c = 143 ∨ c = 144) (Fr.wI (P := fun c _ => c = 143 ∨ c = 144) hF 143 _ _ (by omega)) 144 _ _ (by omega)) (fun j hj => by
      rw [vI_ne (by omega), vI_eq (by omega), vI_eq (by omega), vI_ne (by omega)]
      by_cases e : j = a
      · rw [if_pos e, if_pos e]
        skip
        exact ⟨rfl, rfl⟩
      · rw [if_neg e, if_neg e]; exact h1 j (by omega)) hk
    simp (disch := omega) only [fX13_goThrough_28, qbI_s, qbL_s, qbV_s, qbR_s, qbR_n, qbN_s, qbN_n, qbIX_s, qbIX_n, qbVX_s, qbVX_n, cond_true, cond_false, cond_dec, jadd, jsub, jmul, jneg, li_0, li_1, li_2, li_3, li_4, li_5, li_6, li_7, li_8, li_9, li_10, li_14, li_15, li_16, li_19, li_20, li_24, li_30, li_31, li_32, li_39, li_40, li_48, li_57, li_59, li_60, li_63, li_65, li_80, li_81, li_90, li_97, li_99, li_100, li_122, li_126, li_127, li_150, li_160, li_200, li_225, li_255, li_400, li_799, li_800, li_999, li_2400, li_3239, li_3240, li_1048575, li_1431655765, li_858993459, li_252645135, eqb_j, ltb_j, leb_j, inb_j, ix_j, ix_n, nz_b, nz_0, nz_1, eqb_b, bnot, vI_ne, vI_eq, gIL, gLI, gIR, gRI, gLR, gRL, Int.reduceLT, Int.reduceLE, Int.reduceEq, Int.reduceAdd, Int.reduceSub, Int.reduceMul, Int.reduceNeg, Int.reduceToNat, Nat.reduceEqDiff, reduceIte, if_neg, if_pos, gI_ne]
    exact n

theorem thr45 {v0 : qM} (k9 : Int32 → qM → Option (Unit × qM)) (Q : Unit → qM → Prop) : ∀ (r a g : Nat) (v : qM), a + r = 15 → r < g → Fr (fun c _ => c = 145 ∨ c = 146) v0 v → (∀ j, j < a → vI v 145 j = 0 ∧ vI v 146 j = -1) → (∀ v', Fr (fun c _ => c = 145 ∨ c = 146) v0 v' → (∀ j, j < 15 → vI v' 145 j = 0 ∧ vI v' 146 j = -1) → wp (k9 (Zi 0) v') Q) → wp (fX13_goThrough_45 k9 g (Zi a) v) Q := by
  intro r
  induction r with
  | zero =>
    intro a g v ha hg hF h1 hk
    obtain ⟨g, rfl⟩ : ∃ g', g = g' + 1 := ⟨g - 1, by omega⟩
    have n := hk v hF (fun j hj => h1 j (by omega))
    simp (disch := omega) only [fX13_goThrough_45, qbI_s, qbL_s, qbV_s, qbR_s, qbR_n, qbN_s, qbN_n, qbIX_s, qbIX_n, qbVX_s, qbVX_n, cond_true, cond_false, cond_dec, jadd, jsub, jmul, jneg, li_0, li_1, li_2, li_3, li_4, li_5, li_6, li_7, li_8, li_9, li_10, li_14, li_15, li_16, li_19, li_20, li_24, li_30, li_31, li_32, li_39, li_40, li_48, li_57, li_59, li_60, li_63, li_65, li_80, li_81, li_90, li_97, li_99, li_100, li_122, li_126, li_127, li_150, li_160, li_200, li_225, li_255, li_400, li_799, li_800, li_999, li_2400, li_3239, li_3240, li_1048575, li_1431655765, li_858993459, li_252645135, eqb_j, ltb_j, leb_j, inb_j, ix_j, ix_n, nz_b, nz_0, nz_1, eqb_b, bnot, vI_ne, vI_eq, gIL, gLI, gIR, gRI, gLR, gRL, Int.reduceLT, Int.reduceLE, Int.reduceEq, Int.reduceAdd, Int.reduceSub, Int.reduceMul, Int.reduceNeg, Int.reduceToNat, Nat.reduceEqDiff, reduceIte, if_neg, if_pos, gI_ne]
    exact n
  | succ r ih =>
    intro a g v ha hg hF h1 hk
    obtain ⟨g, rfl⟩ : ∃ g', g = g' + 1 := ⟨g - 1, by omega⟩
    have n := ih (a + 1) g (sI (sI v 145 a (Zi (0))) 146 a (Zi (-1))) (by omega) (by omega) (Fr.wI (P := fun c _ => c = 145 ∨ c = 146) (Fr.wI (P := fun c _ => c = 145 ∨ c = 146) hF 145 _ _ (by omega)) 146 _ _ (by omega)) (fun j hj => by
      rw [vI_ne (by omega), vI_eq (by omega), vI_eq (by omega), vI_ne (by omega)]
      by_cases e : j = a
      · rw [if_pos e, if_pos e]
        skip
        exact ⟨rfl, rfl⟩
      · rw [if_neg e, if_neg e]; exact h1 j (by omega)) hk
    simp (disch := omega) only [fX13_goThrough_45, qbI_s, qbL_s, qbV_s, qbR_s, qbR_n, qbN_s, qbN_n, qbIX_s, qbIX_n, qbVX_s, qbVX_n, cond_true, cond_false, cond_dec, jadd, jsub, jmul, jneg, li_0, li_1, li_2, li_3, li_4, li_5, li_6, li_7, li_8, li_9, li_10, li_14, li_15, li_16, li_19, li_20, li_24, li_30, li_31, li_32, li_39, li_40, li_48, li_57, li_59, li_60, li_63, li_65, li_80, li_81, li_90, li_97, li_99, li_100, li_122, li_126, li_127, li_150, li_160, li_200, li_225, li_255, li_400, li_799, li_800, li_999, li_2400, li_3239, li_3240, li_1048575, li_1431655765, li_858993459, li_252645135, eqb_j, ltb_j, leb_j, inb_j, ix_j, ix_n, nz_b, nz_0, nz_1, eqb_b, bnot, vI_ne, vI_eq, gIL, gLI, gIR, gRI, gLR, gRL, Int.reduceLT, Int.reduceLE, Int.reduceEq, Int.reduceAdd, Int.reduceSub, Int.reduceMul, Int.reduceNeg, Int.reduceToNat, Nat.reduceEqDiff, reduceIte, if_neg, if_pos, gI_ne, show (-1 : Int32) = Zi (-1) from rfl]
    exact n

theorem thr62 {v0 : qM} (k9 : Int32 → qM → Option (Unit × qM)) (Q : Unit → qM → Prop) : ∀ (r a g : Nat) (v : qM), a + r = 4 → r < g → Fr (fun c _ => c = 147) v0 v → (∀ j, j < a → vI v 147 j = 0) → (∀ v', Fr (fun c _ => c = 147) v0 v' → (∀ j, j < 4 → vI v' 147 j = 0) → wp (k9 (Zi 0) v') Q) → wp (fX13_goThrough_62 k9 g (Zi a) v) Q := by
  intro r
  induction r with
  | zero =>
    intro a g v ha hg hF h1 hk
    obtain ⟨g, rfl⟩ : ∃ g', g = g' + 1 := ⟨g - 1, by omega⟩
    have n := hk v hF (fun j hj => h1 j (by omega))
    simp (disch := omega) only [fX13_goThrough_62, qbI_s, qbL_s, qbV_s, qbR_s, qbR_n, qbN_s, qbN_n, qbIX_s, qbIX_n, qbVX_s, qbVX_n, cond_true, cond_false, cond_dec, jadd, jsub, jmul, jneg, li_0, li_1, li_2, li_3, li_4, li_5, li_6, li_7, li_8, li_9, li_10, li_14, li_15, li_16, li_19, li_20, li_24, li_30, li_31, li_32, li_39, li_40, li_48, li_57, li_59, li_60, li_63, li_65, li_80, li_81, li_90, li_97, li_99, li_100, li_122, li_126, li_127, li_150, li_160, li_200, li_225, li_255, li_400, li_799, li_800, li_999, li_2400, li_3239, li_3240, li_1048575, li_1431655765, li_858993459, li_252645135, eqb_j, ltb_j, leb_j, inb_j, ix_j, ix_n, nz_b, nz_0, nz_1, eqb_b, bnot, vI_ne, vI_eq, gIL, gLI, gIR, gRI, gLR, gRL, Int.reduceLT, Int.reduceLE, Int.reduceEq, Int.reduceAdd, Int.reduceSub, Int.reduceMul, Int.reduceNeg, Int.reduceToNat, Nat.reduceEqDiff, reduceIte, if_neg, if_pos, gI_ne]
    exact n
  | succ r ih =>
    intro a g v ha hg hF h1 hk
    obtain ⟨g, rfl⟩ : ∃ g', g = g' + 1 := ⟨g - 1, by omega⟩
    have n := ih (a + 1) g (sI v 147 a (Zi (0))) (by omega) (by omega) (Fr.wI (P := fun c _ => c = 147) hF 147 _ _ rfl) (fun j hj => by
      rw [vI_eq (by omega)]
      by_cases e : j = a
      · rw [if_pos e]
        skip
        skip
      · rw [if_neg e]; exact h1 j (by omega)) hk
    simp (disch := omega) only [fX13_goThrough_62, qbI_s, qbL_s, qbV_s, qbR_s, qbR_n, qbN_s, qbN_n, qbIX_s, qbIX_n, qbVX_s, qbVX_n, cond_true, cond_false, cond_dec, jadd, jsub, jmul, jneg, li_0, li_1, li_2, li_3, li_4, li_5, li_6, li_7, li_8, li_9, li_10, li_14, li_15, li_16, li_19, li_20, li_24, li_30, li_31, li_32, li_39, li_40, li_48, li_57, li_59, li_60, li_63, li_65, li_80, li_81, li_90, li_97, li_99, li_100, li_122, li_126, li_127, li_150, li_160, li_200, li_225, li_255, li_400, li_799, li_800, li_999, li_2400, li_3239, li_3240, li_1048575, li_1431655765, li_858993459, li_252645135, eqb_j, ltb_j, leb_j, inb_j, ix_j, ix_n, nz_b, nz_0, nz_1, eqb_b, bnot, vI_ne, vI_eq, gIL, gLI, gIR, gRI, gLR, gRL, Int.reduceLT, Int.reduceLE, Int.reduceEq, Int.reduceAdd, Int.reduceSub, Int.reduceMul, Int.reduceNeg, Int.reduceToNat, Nat.reduceEqDiff, reduceIte, if_neg, if_pos, gI_ne]
    exact n

theorem kno5 {v0 : qM} {d : Nat → Nat → Int} (hd : ∀ c k, dE c k → vI v0 c k = d c k) (hr : ∀ t, t < 10 → 0 ≤ d 132 t ∧ d 132 t ≤ 20) (hr2 : ∀ t, t < 10 → 0 ≤ ftV d t ∧ ftV d t ≤ 60) (hr3 : ∀ a : Nat, (a : Int) < d 98 32 → 0 ≤ d 124 a ∧ d 124 a ≤ 9) (u : Int) (N : Nat) (hn : vI v0 98 32 = N ∧ N ≤ 40) (k9 : Int32 → Int32 → qM → Option (Unit × qM)) (Q : Unit → qM → Prop) : ∀ (r a g : Nat) (v : qM), a + r = N → r < g → Fr (fun c _ => c = 139 ∨ c = 148) v0 v → (∀ j, j < a → vI v 139 j = ftV d (d 124 j).toNat ∧ vI v 148 j = 0) → (∀ v', Fr (fun c _ => c = 139 ∨ c = 148) v0 v' → (∀ j, j < N → vI v' 139 j = ftV d (d 124 j).toNat ∧ vI v' 148 j = 0) → wp (k9 (Zi u) (Zi 0) v') Q) → wp (fX13_know_5 k9 g (Zi u) (Zi a) v) Q := by
  intro r
  induction r with
  | zero =>
    intro a g v ha hg hF h1 hk
    obtain ⟨g, rfl⟩ : ∃ g', g = g' + 1 := ⟨g - 1, by omega⟩
    have e98 : vI v 98 32 = N := by rw [hF.v 98 32 (by omega)]; exact hn.1
    have n := hk v hF (fun j hj => h1 j (by omega))
    simp (disch := omega) only [fX13_know_5, qbI_s, qbL_s, qbV_s, qbR_s, qbR_n, qbN_s, qbN_n, qbIX_s, qbIX_n, qbVX_s, qbVX_n, cond_true, cond_false, cond_dec, jadd, jsub, jmul, jneg, li_0, li_1, li_2, li_3, li_4, li_5, li_6, li_7, li_8, li_9, li_10, li_14, li_15, li_16, li_19, li_20, li_24, li_30, li_31, li_32, li_39, li_40, li_48, li_57, li_59, li_60, li_63, li_65, li_80, li_81, li_90, li_97, li_99, li_100, li_122, li_126, li_127, li_150, li_160, li_200, li_225, li_255, li_400, li_799, li_800, li_999, li_2400, li_3239, li_3240, li_1048575, li_1431655765, li_858993459, li_252645135, eqb_j, ltb_j, leb_j, inb_j, ix_j, ix_n, nz_b, nz_0, nz_1, eqb_b, bnot, vI_ne, vI_eq, gIL, gLI, gIR, gRI, gLR, gRL, Int.reduceLT, Int.reduceLE, Int.reduceEq, Int.reduceAdd, Int.reduceSub, Int.reduceMul, Int.reduceNeg, Int.reduceToNat, Nat.reduceEqDiff, reduceIte, if_neg, if_pos, gI_ne, gIv 98, e98]
    exact n
  | succ r ih =>
    intro a g v ha hg hF h1 hk
    obtain ⟨g, rfl⟩ : ∃ g', g = g' + 1 := ⟨g - 1, by omega⟩
    have e98 : vI v 98 32 = N := by rw [hF.v 98 32 (by omega)]; exact hn.1
    have hd' : ∀ c k, dE c k → vI v c k = d c k := fun c k hc => by rw [hF.v c k (by unfold dE at hc; omega)]; exact hd c k hc
    have n98 := hd 98 32 (by unfold dE; omega)
    have k2 := hr3 a (by omega)
    obtain ⟨t, ht⟩ : ∃ t : Nat, d 124 a = t := ⟨(d 124 a).toNat, by omega⟩
    have e124 := hd' 124 a (by unfold dE; omega)
    rw [ht] at e124
    have fM := ftM2 hd' hr t (by omega)
    have fr := hr2 t (by omega)
    have ft : ftV d (d 124 a).toNat = ftV d t := by rw [ht, Int.toNat_natCast]
    rw [← ft] at fM fr
    have n := ih (a + 1) g (sI (sI v 139 a (Zi (ftV d (d 124 a).toNat))) 148 a (Zi (0))) (by omega) (by omega) (Fr.wI (P := fun c _ => c = 139 ∨ c = 148) (Fr.wI (P := fun c _ => c = 139 ∨ c = 148) hF 139 _ _ (by omega)) 148 _ _ (by omega)) (fun j hj => by
      rw [vI_ne (by omega), vI_eq (by omega), vI_eq (by omega), vI_ne (by omega)]
      by_cases e : j = a
      · rw [if_pos e, if_pos e]
        rw [e]
        exact ⟨rfl, rfl⟩
      · rw [if_neg e, if_neg e]; exact h1 j (by omega)) hk
    simp (disch := omega) only [fX13_know_5, qbI_s, qbL_s, qbV_s, qbR_s, qbR_n, qbN_s, qbN_n, qbIX_s, qbIX_n, qbVX_s, qbVX_n, cond_true, cond_false, cond_dec, jadd, jsub, jmul, jneg, li_0, li_1, li_2, li_3, li_4, li_5, li_6, li_7, li_8, li_9, li_10, li_14, li_15, li_16, li_19, li_20, li_24, li_30, li_31, li_32, li_39, li_40, li_48, li_57, li_59, li_60, li_63, li_65, li_80, li_81, li_90, li_97, li_99, li_100, li_122, li_126, li_127, li_150, li_160, li_200, li_225, li_255, li_400, li_799, li_800, li_999, li_2400, li_3239, li_3240, li_1048575, li_1431655765, li_858993459, li_252645135, eqb_j, ltb_j, leb_j, inb_j, ix_j, ix_n, nz_b, nz_0, nz_1, eqb_b, bnot, vI_ne, vI_eq, gIL, gLI, gIR, gRI, gLR, gRL, Int.reduceLT, Int.reduceLE, Int.reduceEq, Int.reduceAdd, Int.reduceSub, Int.reduceMul, Int.reduceNeg, Int.reduceToNat, Nat.reduceEqDiff, reduceIte, if_neg, if_pos, gI_ne, gIv 98, e98, gIv 124, e124, fM]
    exact n

theorem kno28 {v0 : qM} {d : Nat → Nat → Int} (hd : ∀ c k, dE c k → vI v0 c k = d c k) (hr : ∀ f, f < 15 → 0 ≤ d 99 0 * d 116 f ∧ d 99 0 * d 116 f ≤ 799) (u : Int) (k9 : Int32 → Int32 → qM → Option (Unit × qM)) (Q : Unit → qM → Prop) : ∀ (r a g : Nat) (v : qM), a + r = 15 → r < g → Fr (fun c _ => c = 140) v0 v → (∀ j, j < a → vI v 140 j = d 99 0 * d 116 j) → (∀ v', Fr (fun c _ => c = 140) v0 v' → (∀ j, j < 15 → vI v' 140 j = d 99 0 * d 116 j) → wp (k9 (Zi u) (Zi 0) v') Q) → wp (fX13_know_28 k9 g (Zi u) (Zi a) v) Q := by
  intro r
  induction r with
  | zero =>
    intro a g v ha hg hF h1 hk
    obtain ⟨g, rfl⟩ : ∃ g', g = g' + 1 := ⟨g - 1, by omega⟩
    have n := hk v hF (fun j hj => h1 j (by omega))
    simp (disch := omega) only [fX13_know_28, qbI_s, qbL_s, qbV_s, qbR_s, qbR_n, qbN_s, qbN_n, qbIX_s, qbIX_n, qbVX_s, qbVX_n, cond_true, cond_false, cond_dec, jadd, jsub, jmul, jneg, li_0, li_1, li_2, li_3, li_4, li_5, li_6, li_7, li_8, li_9, li_10, li_14, li_15, li_16, li_19, li_20, li_24, li_30, li_31, li_32, li_39, li_40, li_48, li_57, li_59, li_60, li_63, li_65, li_80, li_81, li_90, li_97, li_99, li_100, li_122, li_126, li_127, li_150, li_160, li_200, li_225, li_255, li_400, li_799, li_800, li_999, li_2400, li_3239, li_3240, li_1048575, li_1431655765, li_858993459, li_252645135, eqb_j, ltb_j, leb_j, inb_j, ix_j, ix_n, nz_b, nz_0, nz_1, eqb_b, bnot, vI_ne, vI_eq, gIL, gLI, gIR, gRI, gLR, gRL, Int.reduceLT, Int.reduceLE, Int.reduceEq, Int.reduceAdd, Int.reduceSub, Int.reduceMul, Int.reduceNeg, Int.reduceToNat, Nat.reduceEqDiff, reduceIte, if_neg, if_pos, gI_ne]
    exact n
  | succ r ih =>
    intro a g v ha hg hF h1 hk
    obtain ⟨g, rfl⟩ : ∃ g', g = g' + 1 := ⟨g - 1, by omega⟩
    have e99 : vI v 99 0 = d 99 0 := by rw [hF.v 99 0 (by omega)]; exact hd 99 0 (by unfold dE; omega)
    have e116 : vI v 116 a = d 116 a := by rw [hF.v 116 a (by omega)]; exact hd 116 a (by unfold dE; omega)
    have rr := hr a (by omega)
    have n := ih (a + 1) g (sI v 140 a (Zi (d 99 0 * d 116 a))) (by omega) (by omega) (Fr.wI (P := fun c _ => c = 140) hF 140 _ _ rfl) (fun j hj => by
      rw [vI_eq (by omega)]
      by_cases e : j = a
      · rw [if_pos e]
        rw [e]
        skip
      · rw [if_neg e]; exact h1 j (by omega)) hk
    simp (disch := omega) only [fX13_know_28, qbI_s, qbL_s, qbV_s, qbR_s, qbR_n, qbN_s, qbN_n, qbIX_s, qbIX_n, qbVX_s, qbVX_n, cond_true, cond_false, cond_dec, jadd, jsub, jmul, jneg, li_0, li_1, li_2, li_3, li_4, li_5, li_6, li_7, li_8, li_9, li_10, li_14, li_15, li_16, li_19, li_20, li_24, li_30, li_31, li_32, li_39, li_40, li_48, li_57, li_59, li_60, li_63, li_65, li_80, li_81, li_90, li_97, li_99, li_100, li_122, li_126, li_127, li_150, li_160, li_200, li_225, li_255, li_400, li_799, li_800, li_999, li_2400, li_3239, li_3240, li_1048575, li_1431655765, li_858993459, li_252645135, eqb_j, ltb_j, leb_j, inb_j, ix_j, ix_n, nz_b, nz_0, nz_1, eqb_b, bnot, vI_ne, vI_eq, gIL, gLI, gIR, gRI, gLR, gRL, Int.reduceLT, Int.reduceLE, Int.reduceEq, Int.reduceAdd, Int.reduceSub, Int.reduceMul, Int.reduceNeg, Int.reduceToNat, Nat.reduceEqDiff, reduceIte, if_neg, if_pos, gI_ne, gIv 99, gIv 116, e99, e116]
    exact n
