/-! the evening: what stands, what changes -/
theorem evTea {w : qM} {d : Nat → Nat → Int} (hC : CAll w d) (a : Nat) (ha : (a : Int) < d 98 32) : fX4_teacherOf (Zi a) w = some (Zi (d 124 a), w) := by
  obtain ⟨h1, h2, h3, h4⟩ := hC.2.2.2.2.2.1
  have k := (h4 a ha).2.1
  rw [fX4_teacherOf_d]
  simp (disch := omega) only [fX4_teacherOf_0, qbI_s, qbL_s, qbV_s, qbR_s, qbR_n, qbN_s, qbN_n, qbIX_s, qbIX_n, qbVX_s, qbVX_n, cond_true, cond_false, cond_dec, jadd, jsub, jmul, jneg, li_0, li_1, li_2, li_3, li_4, li_5, li_6, li_7, li_8, li_9, li_10, li_14, li_15, li_16, li_19, li_20, li_24, li_30, li_31, li_32, li_39, li_40, li_48, li_57, li_59, li_60, li_63, li_65, li_80, li_81, li_90, li_97, li_99, li_100, li_122, li_126, li_127, li_150, li_160, li_200, li_225, li_255, li_400, li_799, li_800, li_999, li_2400, li_3239, li_3240, li_1048575, li_1431655765, li_858993459, li_252645135, eqb_j, ltb_j, leb_j, inb_j, ix_j, ix_n, nz_b, nz_0, nz_1, eqb_b, bnot, vI_ne, vI_eq, gIL, gLI, gIR, gRI, gLR, gRL, Int.reduceLT, Int.reduceLE, Int.reduceEq, Int.reduceAdd, Int.reduceSub, Int.reduceMul, Int.reduceNeg, Int.reduceToNat, Nat.reduceEqDiff, reduceIte, if_neg, if_pos, gI_ne, gIv 60, k.1]
theorem evFam {w : qM} {d : Nat → Nat → Int} (hC : CAll w d) (a : Nat) (ha : (a : Int) < d 98 32) : fX4_familyOf (Zi a) w = some (Zi (d 123 a), w) := by
  obtain ⟨h1, h2, h3, h4⟩ := hC.2.2.2.2.2.1
  have k := (h4 a ha).1
  rw [fX4_familyOf_d]
  simp (disch := omega) only [fX4_familyOf_0, qbI_s, qbL_s, qbV_s, qbR_s, qbR_n, qbN_s, qbN_n, qbIX_s, qbIX_n, qbVX_s, qbVX_n, cond_true, cond_false, cond_dec, jadd, jsub, jmul, jneg, li_0, li_1, li_2, li_3, li_4, li_5, li_6, li_7, li_8, li_9, li_10, li_14, li_15, li_16, li_19, li_20, li_24, li_30, li_31, li_32, li_39, li_40, li_48, li_57, li_59, li_60, li_63, li_65, li_80, li_81, li_90, li_97, li_99, li_100, li_122, li_126, li_127, li_150, li_160, li_200, li_225, li_255, li_400, li_799, li_800, li_999, li_2400, li_3239, li_3240, li_1048575, li_1431655765, li_858993459, li_252645135, eqb_j, ltb_j, leb_j, inb_j, ix_j, ix_n, nz_b, nz_0, nz_1, eqb_b, bnot, vI_ne, vI_eq, gIL, gLI, gIR, gRI, gLR, gRL, Int.reduceLT, Int.reduceLE, Int.reduceEq, Int.reduceAdd, Int.reduceSub, Int.reduceMul, Int.reduceNeg, Int.reduceToNat, Nat.reduceEqDiff, reduceIte, if_neg, if_pos, gI_ne, gIv 59, k.1]
theorem evSlo {w : qM} {d : Nat → Nat → Int} (hC : CAll w d) (a : Nat) (ha : (a : Int) < d 98 32) : fX4_slotOf (Zi a) w = some (Zi (d 125 a), w) := by
  obtain ⟨h1, h2, h3, h4⟩ := hC.2.2.2.2.2.1
  have k := (h4 a ha).2.2.2
  rw [fX4_slotOf_d]
  simp (disch := omega) only [fX4_slotOf_0, qbI_s, qbL_s, qbV_s, qbR_s, qbR_n, qbN_s, qbN_n, qbIX_s, qbIX_n, qbVX_s, qbVX_n, cond_true, cond_false, cond_dec, jadd, jsub, jmul, jneg, li_0, li_1, li_2, li_3, li_4, li_5, li_6, li_7, li_8, li_9, li_10, li_14, li_15, li_16, li_19, li_20, li_24, li_30, li_31, li_32, li_39, li_40, li_48, li_57, li_59, li_60, li_63, li_65, li_80, li_81, li_90, li_97, li_99, li_100, li_122, li_126, li_127, li_150, li_160, li_200, li_225, li_255, li_400, li_799, li_800, li_999, li_2400, li_3239, li_3240, li_1048575, li_1431655765, li_858993459, li_252645135, eqb_j, ltb_j, leb_j, inb_j, ix_j, ix_n, nz_b, nz_0, nz_1, eqb_b, bnot, vI_ne, vI_eq, gIL, gLI, gIR, gRI, gLR, gRL, Int.reduceLT, Int.reduceLE, Int.reduceEq, Int.reduceAdd, Int.reduceSub, Int.reduceMul, Int.reduceNeg, Int.reduceToNat, Nat.reduceEqDiff, reduceIte, if_neg, if_pos, gI_ne, gIv 62, k.1]
theorem evMus {w : qM} {d : Nat → Nat → Int} (hC : CAll w d) (a : Nat) (ha : (a : Int) < d 98 32) : fX4_isMust (Zi a) w = some (Zi (d 126 a), w) := by
  obtain ⟨h1, h2, h3, h4⟩ := hC.2.2.2.2.2.1
  have k := (h4 a ha).2.2.1
  have k1 : vI w 61 a = bI (decide (d 126 a = 1)) := by rw [k.1]; exact bI_01 _ k.2
  have k2 : d 126 a = bI (decide (d 126 a = 1)) := bI_01 _ k.2
  rw [fX4_isMust_d, k2]
  simp (disch := omega) only [fX4_isMust_0, qbI_s, qbL_s, qbV_s, qbR_s, qbR_n, qbN_s, qbN_n, qbIX_s, qbIX_n, qbVX_s, qbVX_n, cond_true, cond_false, cond_dec, jadd, jsub, jmul, jneg, li_0, li_1, li_2, li_3, li_4, li_5, li_6, li_7, li_8, li_9, li_10, li_14, li_15, li_16, li_19, li_20, li_24, li_30, li_31, li_32, li_39, li_40, li_48, li_57, li_59, li_60, li_63, li_65, li_80, li_81, li_90, li_97, li_99, li_100, li_122, li_126, li_127, li_150, li_160, li_200, li_225, li_255, li_400, li_799, li_800, li_999, li_2400, li_3239, li_3240, li_1048575, li_1431655765, li_858993459, li_252645135, eqb_j, ltb_j, leb_j, inb_j, ix_j, ix_n, nz_b, nz_0, nz_1, eqb_b, bnot, vI_ne, vI_eq, gIL, gLI, gIR, gRI, gLR, gRL, Int.reduceLT, Int.reduceLE, Int.reduceEq, Int.reduceAdd, Int.reduceSub, Int.reduceMul, Int.reduceNeg, Int.reduceToNat, Nat.reduceEqDiff, reduceIte, if_neg, if_pos, gI_ne, gIv 61, k1]
theorem evTon {w : qM} {d : Nat → Nat → Int} (hC : CAll w d) (f : Nat) (hf : f < 15) : fX3_tongueOf (Zi f) w = some (Zi (d 118 f), w) := by
  have k := (hC.2.2.1 f hf).2.2.1
  rw [fX3_tongueOf_d]
  simp (disch := omega) only [fX3_tongueOf_0, qbI_s, qbL_s, qbV_s, qbR_s, qbR_n, qbN_s, qbN_n, qbIX_s, qbIX_n, qbVX_s, qbVX_n, cond_true, cond_false, cond_dec, jadd, jsub, jmul, jneg, li_0, li_1, li_2, li_3, li_4, li_5, li_6, li_7, li_8, li_9, li_10, li_14, li_15, li_16, li_19, li_20, li_24, li_30, li_31, li_32, li_39, li_40, li_48, li_57, li_59, li_60, li_63, li_65, li_80, li_81, li_90, li_97, li_99, li_100, li_122, li_126, li_127, li_150, li_160, li_200, li_225, li_255, li_400, li_799, li_800, li_999, li_2400, li_3239, li_3240, li_1048575, li_1431655765, li_858993459, li_252645135, eqb_j, ltb_j, leb_j, inb_j, ix_j, ix_n, nz_b, nz_0, nz_1, eqb_b, bnot, vI_ne, vI_eq, gIL, gLI, gIR, gRI, gLR, gRL, Int.reduceLT, Int.reduceLE, Int.reduceEq, Int.reduceAdd, Int.reduceSub, Int.reduceMul, Int.reduceNeg, Int.reduceToNat, Nat.reduceEqDiff, reduceIte, if_neg, if_pos, gI_ne, gIv 52, k.1]
theorem evWlk {w : qM} {d : Nat → Nat → Int} (hC : CAll w d) (t u : Nat) (ht : t < 10) (hu : u < 10) : fX3_walkBetween (Zi t) (Zi u) w = some (Zi (wkV d t u), w) := by
  have k := (hC.2.2.2.2.1 t u ht hu).1
  have i1 : ((t : Int) * 10 + u).toNat = 10 * t + u := by omega
  rw [fX3_walkBetween_d]
  simp (disch := omega) only [fX3_walkBetween_0, qbI_s, qbL_s, qbV_s, qbR_s, qbR_n, qbN_s, qbN_n, qbIX_s, qbIX_n, qbVX_s, qbVX_n, cond_true, cond_false, cond_dec, jadd, jsub, jmul, jneg, li_0, li_1, li_2, li_3, li_4, li_5, li_6, li_7, li_8, li_9, li_10, li_14, li_15, li_16, li_19, li_20, li_24, li_30, li_31, li_32, li_39, li_40, li_48, li_57, li_59, li_60, li_63, li_65, li_80, li_81, li_90, li_97, li_99, li_100, li_122, li_126, li_127, li_150, li_160, li_200, li_225, li_255, li_400, li_799, li_800, li_999, li_2400, li_3239, li_3240, li_1048575, li_1431655765, li_858993459, li_252645135, eqb_j, ltb_j, leb_j, inb_j, ix_j, ix_n, nz_b, nz_0, nz_1, eqb_b, bnot, vI_ne, vI_eq, gIL, gLI, gIR, gRI, gLR, gRL, Int.reduceLT, Int.reduceLE, Int.reduceEq, Int.reduceAdd, Int.reduceSub, Int.reduceMul, Int.reduceNeg, Int.reduceToNat, Nat.reduceEqDiff, reduceIte, if_neg, if_pos, gI_ne, gIv 56, i1, k]
theorem evMin {w : qM} {d : Nat → Nat → Int} (hC : CAll w d) : fX7_slotMinutes w = some (Zi (d 99 0), w) := by
  obtain ⟨h1, h2, -⟩ := hC.1
  have k := h1 0 (by omega)
  rw [fX7_slotMinutes_d]
  simp (disch := omega) only [fX7_slotMinutes_0, fX7_slotMinutes_11, qbI_s, qbL_s, qbV_s, qbR_s, qbR_n, qbN_s, qbN_n, qbIX_s, qbIX_n, qbVX_s, qbVX_n, cond_true, cond_false, cond_dec, jadd, jsub, jmul, jneg, li_0, li_1, li_2, li_3, li_4, li_5, li_6, li_7, li_8, li_9, li_10, li_14, li_15, li_16, li_19, li_20, li_24, li_30, li_31, li_32, li_39, li_40, li_48, li_57, li_59, li_60, li_63, li_65, li_80, li_81, li_90, li_97, li_99, li_100, li_122, li_126, li_127, li_150, li_160, li_200, li_225, li_255, li_400, li_799, li_800, li_999, li_2400, li_3239, li_3240, li_1048575, li_1431655765, li_858993459, li_252645135, eqb_j, ltb_j, leb_j, inb_j, ix_j, ix_n, nz_b, nz_0, nz_1, eqb_b, bnot, vI_ne, vI_eq, gIL, gLI, gIR, gRI, gLR, gRL, Int.reduceLT, Int.reduceLE, Int.reduceEq, Int.reduceAdd, Int.reduceSub, Int.reduceMul, Int.reduceNeg, Int.reduceToNat, Nat.reduceEqDiff, reduceIte, if_neg, if_pos, gI_ne, gIv 5, k]
theorem evTold {w : qM} {d : Nat → Nat → Int} (hC : CAll w d) (k : Nat) (hk : k < 6) : fX7_told (Zi k) w = some (Zi (d 99 k), w) := toldD_s w d hC.1 k hk
theorem evIs {w : qM} {d : Nat → Nat → Int} (hC : CAll w d) (a : Int) (h : -2147483648 ≤ a ∧ a < 2147483648) : fX4_isAsk (Zi a) w = some (Zi (bI (decide (0 ≤ a ∧ a < d 98 32))), w) := by
  obtain ⟨h1, h2, h3, h4⟩ := hC.2.2.2.2.2.1
  rw [fX4_isAsk_d]
  simp (disch := omega) only [fX4_isAsk_0, fX4_isAsk_8, fX4_isAsk_9, qbI_s, qbL_s, qbV_s, qbR_s, qbR_n, qbN_s, qbN_n, qbIX_s, qbIX_n, qbVX_s, qbVX_n, cond_true, cond_false, cond_dec, jadd, jsub, jmul, jneg, li_0, li_1, li_2, li_3, li_4, li_5, li_6, li_7, li_8, li_9, li_10, li_14, li_15, li_16, li_19, li_20, li_24, li_30, li_31, li_32, li_39, li_40, li_48, li_57, li_59, li_60, li_63, li_65, li_80, li_81, li_90, li_97, li_99, li_100, li_122, li_126, li_127, li_150, li_160, li_200, li_225, li_255, li_400, li_799, li_800, li_999, li_2400, li_3239, li_3240, li_1048575, li_1431655765, li_858993459, li_252645135, eqb_j, ltb_j, leb_j, inb_j, ix_j, ix_n, nz_b, nz_0, nz_1, eqb_b, bnot, vI_ne, vI_eq, gIL, gLI, gIR, gRI, gLR, gRL, Int.reduceLT, Int.reduceLE, Int.reduceEq, Int.reduceAdd, Int.reduceSub, Int.reduceMul, Int.reduceNeg, Int.reduceToNat, Nat.reduceEqDiff, reduceIte, if_neg, if_pos, gI_ne, gIv 58, h1, bI_dec]
  by_cases g1 : a < 0
  · rw [if_pos g1, if_neg (by omega)]
  · rw [if_neg g1]
    by_cases g2 : d 98 32 ≤ a
    · rw [if_pos g2, if_neg (by omega)]
    · rw [if_neg g2, if_pos (by omega)]
theorem evIn {w : qM} {d : Nat → Nat → Int} (hC : CAll w d) (t b : Nat) (ht : t < 10) (hb : b < 20) : fX4_askIn (Zi t) (Zi b) w = some (Zi (vI w 64 (20 * t + b)), w) := by
  have i1 : ((t : Int) * 20 + b).toNat = 20 * t + b := by omega
  rw [fX4_askIn_d]
  simp (disch := omega) only [fX4_askIn_0, fX4_askIn_15, qbI_s, qbL_s, qbV_s, qbR_s, qbR_n, qbN_s, qbN_n, qbIX_s, qbIX_n, qbVX_s, qbVX_n, cond_true, cond_false, cond_dec, jadd, jsub, jmul, jneg, li_0, li_1, li_2, li_3, li_4, li_5, li_6, li_7, li_8, li_9, li_10, li_14, li_15, li_16, li_19, li_20, li_24, li_30, li_31, li_32, li_39, li_40, li_48, li_57, li_59, li_60, li_63, li_65, li_80, li_81, li_90, li_97, li_99, li_100, li_122, li_126, li_127, li_150, li_160, li_200, li_225, li_255, li_400, li_799, li_800, li_999, li_2400, li_3239, li_3240, li_1048575, li_1431655765, li_858993459, li_252645135, eqb_j, ltb_j, leb_j, inb_j, ix_j, ix_n, nz_b, nz_0, nz_1, eqb_b, bnot, vI_ne, vI_eq, gIL, gLI, gIR, gRI, gLR, gRL, Int.reduceLT, Int.reduceLE, Int.reduceEq, Int.reduceAdd, Int.reduceSub, Int.reduceMul, Int.reduceNeg, Int.reduceToNat, Nat.reduceEqDiff, reduceIte, if_neg, if_pos, gI_ne, within_s, bI_dec, gIv 64, i1]
def opn (d s : Nat → Nat → Int) (a : Nat) : Prop := (a : Int) < d 98 32 ∧ d 125 a ≠ -1 ∧ s 141 a = -1 ∧ s 149 a = 0
def opS (d s : Nat → Nat → Int) (t b : Nat) : Prop := ∃ a : Nat, opn d s a ∧ d 124 a = t ∧ d 125 a = b
def dyn (d : Nat → Nat → Int) (c k : Nat) : Prop := (c = 139 ∨ c = 141 ∨ c = 142 ∨ c = 148 ∨ c = 149) ∧ (k : Int) < d 98 32 ∨ (c = 140 ∨ c = 145 ∨ c = 146) ∧ k < 15 ∨ (c = 143 ∨ c = 144) ∧ k < 10 ∨ c = 147 ∧ k < 4
def upE (s : Nat → Nat → Int) (c k : Nat) (z : Int) : Nat → Nat → Int := fun c' k' => if c' = c ∧ k' = k then z else s c' k'
theorem upE_ne (s : Nat → Nat → Int) {c k : Nat} (z : Int) {c' k' : Nat} (h : ¬ (c' = c ∧ k' = k)) : upE s c k z c' k' = s c' k' := if_neg h
theorem upE_c (s : Nat → Nat → Int) {c k : Nat} (z : Int) {c' k' : Nat} (h : ¬ c' = c) : upE s c k z c' k' = s c' k' := if_neg fun e => h e.1
theorem upE_eq (s : Nat → Nat → Int) (c k : Nat) (z : Int) (k' : Nat) : upE s c k z c k' = if k' = k then z else s c k' := by
  unfold upE
  by_cases e : k' = k
  · rw [if_pos ⟨rfl, e⟩, if_pos e]
  · rw [if_neg (fun h => e h.2), if_neg e]
def SI (d s : Nat → Nat → Int) : Prop := (∀ f, f < 15 → (0 ≤ s 140 f ∧ s 140 f ≤ 799) ∧ (0 ≤ s 145 f ∧ s 145 f ≤ 900) ∧ -1 ≤ s 146 f ∧ s 146 f ≤ 9) ∧ (∀ k, k < 4 → 0 ≤ s 147 k ∧ s 147 k ≤ 900) ∧ s 147 0 = 0 ∧ (∀ t, t < 10 → (0 ≤ s 143 t ∧ s 143 t ≤ 900) ∧ 0 ≤ s 144 t ∧ s 144 t ≤ 900) ∧ ∀ a : Nat, (a : Int) < d 98 32 → (0 ≤ s 139 a ∧ s 139 a ≤ 60) ∧ (-1 ≤ s 141 a ∧ s 141 a ≤ 799) ∧ (0 ≤ s 142 a ∧ s 142 a ≤ 90) ∧ (s 148 a = 0 ∨ s 148 a = 1) ∧ (s 149 a = 0 ∨ s 149 a = 1) ∧ (s 141 a ≠ -1 → s 149 a = 0) ∧ (d 125 a = -1 → s 141 a = -1 ∧ s 149 a = 0) ∧ (s 141 a = -1 → s 142 a = 0)
def evF (c _k : Nat) : Prop := 80 ≤ c ∧ c ≤ 92
/-- the class's world -/
def CS (m0 : qM) (s : Nat → Nat → Int) (K : Nat) (w : qM) : Prop := Fr evF m0 w ∧ (vI w 80 9 = K ∧ vI w 80 8 = 40 * K) ∧ (∀ t b, t < 10 → b < 32 → bt (gI w 85 t) b = pd (opS (vI m0) s t b)) ∧ (∀ f, f < 15 → vI w 87 f = s 145 f ∧ vI w 88 f = s 146 f ∧ vI w 92 f = s 140 f) ∧ (∀ k, k < 4 → vI w 89 k = s 147 k) ∧ (∀ a : Nat, (a : Int) < vI m0 98 32 → (vI w 90 a = -1 ∧ s 139 a = ftV (vI m0) (vI m0 124 a).toNat ∨ vI w 90 a = s 139 a) ∧ vI w 91 a = s 148 a ∧ vI w 81 (40 * K + a) = s 141 a ∧ vI w 82 (40 * K + a) = if s 141 a = -1 then -1 else s 141 a + s 142 a) ∧ (∀ j, ¬ (40 * K ≤ j ∧ j < 40 * K + 40) → gI w 81 j = gI m0 81 j ∧ gI w 82 j = gI m0 82 j) ∧ ∀ j, gI w 83 j = gI m0 83 j
def dE (c k : Nat) : Prop := c = 98 ∧ k = 32 ∨ c = 99 ∨ 101 ≤ c ∧ c ≤ 108 ∨ 112 ≤ c ∧ c ≤ 126 ∨ 132 ≤ c ∧ c ≤ 133
def KN (d : Nat → Nat → Int) (K : Nat) (v : qM) : Prop := (K : Int) ≤ vI v 98 52 ∧ vI v 98 52 ≤ 80 ∧ (-1 ≤ vI v 98 70 ∧ vI v 98 70 ≤ 799) ∧ (∀ k, k < K → ∀ c, 134 ≤ c → c ≤ 138 → vI v c k = d c k) ∧ (∀ k, k < K → d 134 k ≤ vI v 98 70) ∧ (vI v 98 52 = K ∨ vI v 98 70 < vI v 134 K)
/-- the reference's world -/
def MS (d s : Nat → Nat → Int) (K : Nat) (v : qM) : Prop := (∀ c k, dE c k → vI v c k = d c k) ∧ (∀ c k, dyn d c k → vI v c k = s c k) ∧ KN d K v
theorem CS.all {m0 w : qM} (hR : R0 m0) (h : Fr evF m0 w) : CAll w (vI m0) := (CAll.of hR).congr (fun c k hc => h.1 c k (by unfold evF; omega)) (fun c k _ => rfl)
theorem MS.ok {d s : Nat → Nat → Int} {K : Nat} {v : qM} (hD : DOk d) (h : MS d s K v) : MOk v := MOk.ofD hD fun c k hc => h.1 c k (by unfold dP at hc; unfold dE; omega)
theorem MS.mono {d s : Nat → Nat → Int} {K : Nat} {v v' : qM} (h : MS d s K v) (q : ∀ c k, dE c k ∨ dyn d c k ∨ 134 ≤ c ∧ c ≤ 138 ∨ c = 98 ∧ (k = 52 ∨ k = 70) → gI v' c k = gI v c k) : MS d s K v' := by
  obtain ⟨h1, h2, h3, h4, h5, h6, h7, h8⟩ := h
  refine ⟨fun c k hc => by rw [vI_of (q c k (Or.inl hc))]; exact h1 c k hc, fun c k hc => by rw [vI_of (q c k (Or.inr (Or.inl hc)))]; exact h2 c k hc, ?_⟩
  have e52 := vI_of (q 98 52 (by omega))
  have e70 := vI_of (q 98 70 (by omega))
  refine ⟨by rw [e52]; exact h3, by rw [e52]; exact h4, by rw [e70]; exact h5, fun k hk c c1 c2 => by rw [vI_of (q c k (by omega))]; exact h6 k hk c c1 c2, fun k hk => by rw [e70]; exact h7 k hk, ?_⟩
  rw [e52, e70, vI_of (q 134 K (by omega))]
  exact h8
theorem MS.set {d s : Nat → Nat → Int} {K : Nat} {v : qM} (h : MS d s K v) (c k : Nat) (hc : 139 ≤ c ∧ c ≤ 149) (z : Int) (hz : -2147483648 ≤ z ∧ z < 2147483648) : MS d (upE s c k z) K (sI v c k (Zi z)) := by
  obtain ⟨h1, h2, h3, h4, h5, h6, h7, h8⟩ := h
  refine ⟨fun c' k' hc' => ?_, fun c' k' hc' => ?_, ?_⟩
  · rw [vI_ne (by unfold dE at hc'; omega)]
    exact h1 c' k' hc'
  · by_cases e : c' = c ∧ k' = k
    · obtain ⟨rfl, rfl⟩ := e
      rw [vI_eq hz, if_pos rfl, upE_eq, if_pos rfl]
    · rw [vI_nk e, upE_ne s z e]
      exact h2 c' k' hc'
  · refine ⟨by rw [vI_ne (by omega)]; exact h3, by rw [vI_ne (by omega)]; exact h4, by rw [vI_ne (by omega)]; exact h5, fun k' hk' c' c1 c2 => by rw [vI_ne (by omega)]; exact h6 k' hk' c' c1 c2, fun k' hk' => by rw [vI_ne (by omega)]; exact h7 k' hk', ?_⟩
    rw [vI_ne (by omega), vI_ne (by omega), vI_ne (by omega)]
    exact h8
noncomputable def hrB (d s : Nat → Nat → Int) (a : Nat) (u : Int) : Bool := decide (s 148 a = 0 ∧ s 140 (d 123 a).toNat ≤ u ∧ s 145 (d 123 a).toNat ≤ u ∧ s 147 (d 118 (d 123 a).toNat).toNat ≤ u ∧ (s 146 (d 123 a).toNat = -1 ∨ s 145 (d 123 a).toNat + wkV d (s 146 (d 123 a).toNat).toNat (d 124 a).toNat ≤ u))
theorem hereC {m0 w : qM} (hR : R0 m0) {s : Nat → Nat → Int} {K : Nat} (hS : SI (vI m0) s) (h : CS m0 s K w) (a : Nat) (ha : (a : Int) < vI m0 98 32) (u : Int) (hu : 0 ≤ u ∧ u ≤ 800) : fX1_isHere (Zi a) (Zi u) w = some (Zi (bI (hrB (vI m0) s a u)), w) := by
  have hA := CS.all hR h.1
  have hD := DOk.of hA
  obtain ⟨h1, h2, h3, h4, h5, h6, h7, h8⟩ := h
  obtain ⟨s1, s2, s3, s4, s5⟩ := hS
  have n1 := hD.2.2.2.2.1
  have n2 := hD.2.2.2.2.2.1
  obtain ⟨k1, k2, -⟩ := hD.2.2.2.2.2.2 a ha
  obtain ⟨f, hf⟩ : ∃ f : Nat, vI m0 123 a = f := ⟨(vI m0 123 a).toNat, by omega⟩
  obtain ⟨t, ht⟩ : ∃ t : Nat, vI m0 124 a = t := ⟨(vI m0 124 a).toNat, by omega⟩
  have pF := (hD.2.2.1 f (by omega)).2.1
  obtain ⟨k, hk⟩ : ∃ k : Nat, vI m0 118 f = k := ⟨(vI m0 118 f).toNat, by omega⟩
  obtain ⟨c87, c88, c92⟩ := h4 f (by omega)
  have c89 := h5 k (by omega)
  have c91 := (h6 a ha).2.1
  obtain ⟨q1, q2, q3⟩ := s1 f (by omega)
  have q4 := s2 k (by omega)
  have q5 := (s5 a ha).2.2.2.1
  have iA := evIs hA a (by omega)
  rw [decide_eq_true (show 0 ≤ (a : Int) ∧ (a : Int) < vI m0 98 32 from ⟨by omega, ha⟩)] at iA
  have fA := evFam hA a ha
  have tA := evTea hA a ha
  rw [hf] at fA
  rw [ht] at tA
  have oA := evTon hA f (by omega)
  rw [hk] at oA
  have key : hrB (vI m0) s a u = decide (s 148 a = 0 ∧ s 140 f ≤ u ∧ s 145 f ≤ u ∧ s 147 k ≤ u ∧ (s 146 f = -1 ∨ s 145 f + wkV (vI m0) (s 146 f).toNat t ≤ u)) := by
    unfold hrB
    simp only [hf, ht, hk, Int.toNat_natCast]
  rw [fX1_isHere_d]
  by_cases g1 : s 148 a = 0
  · by_cases g2 : s 140 f ≤ u
    · by_cases g3 : s 145 f ≤ u
      · by_cases g4 : s 147 k ≤ u
        · by_cases g5 : s 146 f = -1
          · rw [key, decide_eq_true ⟨g1, g2, g3, g4, Or.inl g5⟩]
            simp (disch := omega) only [fX1_isHere_0, fX1_isHere_38, fX1_isHere_66, fX1_isHere_63, qbI_s, qbL_s, qbV_s, qbR_s, qbR_n, qbN_s, qbN_n, qbIX_s, qbIX_n, qbVX_s, qbVX_n, cond_true, cond_false, cond_dec, jadd, jsub, jmul, jneg, li_0, li_1, li_2, li_3, li_4, li_5, li_6, li_7, li_8, li_9, li_10, li_14, li_15, li_16, li_19, li_20, li_24, li_30, li_31, li_32, li_39, li_40, li_48, li_57, li_59, li_60, li_63, li_65, li_80, li_81, li_90, li_97, li_99, li_100, li_122, li_126, li_127, li_150, li_160, li_200, li_225, li_255, li_400, li_799, li_800, li_999, li_2400, li_3239, li_3240, li_1048575, li_1431655765, li_858993459, li_252645135, eqb_j, ltb_j, leb_j, inb_j, ix_j, ix_n, nz_b, nz_0, nz_1, eqb_b, bnot, vI_ne, vI_eq, gIL, gLI, gIR, gRI, gLR, gRL, Int.reduceLT, Int.reduceLE, Int.reduceEq, Int.reduceAdd, Int.reduceSub, Int.reduceMul, Int.reduceNeg, Int.reduceToNat, Nat.reduceEqDiff, reduceIte, if_neg, if_pos, gI_ne, iA, fA, oA, gIv 91, gIv 92, gIv 87, gIv 88, gIv 89, c91, c92, c87, c88, c89, g5, show bI true = 1 from rfl, show (-1 : Int32) = Zi (-1) from rfl]
          · obtain ⟨p, hp⟩ : ∃ p : Nat, s 146 f = p := ⟨(s 146 f).toNat, by omega⟩
            have wA := evWlk hA p t (by omega) (by omega)
            have wr := wkD_r (vI m0) hD p t (by omega) (by omega)
            by_cases g6 : s 145 f + wkV (vI m0) p t ≤ u
            · rw [key, decide_eq_true ⟨g1, g2, g3, g4, Or.inr (by rw [hp, Int.toNat_natCast]; exact g6)⟩]
              simp (disch := omega) only [fX1_isHere_0, fX1_isHere_38, fX1_isHere_66, fX1_isHere_63, qbI_s, qbL_s, qbV_s, qbR_s, qbR_n, qbN_s, qbN_n, qbIX_s, qbIX_n, qbVX_s, qbVX_n, cond_true, cond_false, cond_dec, jadd, jsub, jmul, jneg, li_0, li_1, li_2, li_3, li_4, li_5, li_6, li_7, li_8, li_9, li_10, li_14, li_15, li_16, li_19, li_20, li_24, li_30, li_31, li_32, li_39, li_40, li_48, li_57, li_59, li_60, li_63, li_65, li_80, li_81, li_90, li_97, li_99, li_100, li_122, li_126, li_127, li_150, li_160, li_200, li_225, li_255, li_400, li_799, li_800, li_999, li_2400, li_3239, li_3240, li_1048575, li_1431655765, li_858993459, li_252645135, eqb_j, ltb_j, leb_j, inb_j, ix_j, ix_n, nz_b, nz_0, nz_1, eqb_b, bnot, vI_ne, vI_eq, gIL, gLI, gIR, gRI, gLR, gRL, Int.reduceLT, Int.reduceLE, Int.reduceEq, Int.reduceAdd, Int.reduceSub, Int.reduceMul, Int.reduceNeg, Int.reduceToNat, Nat.reduceEqDiff, reduceIte, if_neg, if_pos, gI_ne, iA, fA, tA, oA, wA, gIv 91, gIv 92, gIv 87, gIv 88, gIv 89, c91, c92, c87, c88, c89, hp, show bI true = 1 from rfl, show (-1 : Int32) = Zi (-1) from rfl]
            · rw [key, decide_eq_false (fun z => by rw [hp, Int.toNat_natCast] at z; omega)]
              simp (disch := omega) only [fX1_isHere_0, fX1_isHere_38, fX1_isHere_66, fX1_isHere_63, qbI_s, qbL_s, qbV_s, qbR_s, qbR_n, qbN_s, qbN_n, qbIX_s, qbIX_n, qbVX_s, qbVX_n, cond_true, cond_false, cond_dec, jadd, jsub, jmul, jneg, li_0, li_1, li_2, li_3, li_4, li_5, li_6, li_7, li_8, li_9, li_10, li_14, li_15, li_16, li_19, li_20, li_24, li_30, li_31, li_32, li_39, li_40, li_48, li_57, li_59, li_60, li_63, li_65, li_80, li_81, li_90, li_97, li_99, li_100, li_122, li_126, li_127, li_150, li_160, li_200, li_225, li_255, li_400, li_799, li_800, li_999, li_2400, li_3239, li_3240, li_1048575, li_1431655765, li_858993459, li_252645135, eqb_j, ltb_j, leb_j, inb_j, ix_j, ix_n, nz_b, nz_0, nz_1, eqb_b, bnot, vI_ne, vI_eq, gIL, gLI, gIR, gRI, gLR, gRL, Int.reduceLT, Int.reduceLE, Int.reduceEq, Int.reduceAdd, Int.reduceSub, Int.reduceMul, Int.reduceNeg, Int.reduceToNat, Nat.reduceEqDiff, reduceIte, if_neg, if_pos, gI_ne, iA, fA, tA, oA, wA, gIv 91, gIv 92, gIv 87, gIv 88, gIv 89, c91, c92, c87, c88, c89, hp, show bI true = 1 from rfl, show bI false = 0 from rfl, show (-1 : Int32) = Zi (-1) from rfl]
        · rw [key, decide_eq_false (fun z => g4 z.2.2.2.1)]
          simp (disch := omega) only [fX1_isHere_0, fX1_isHere_38, fX1_isHere_66, fX1_isHere_63, qbI_s, qbL_s, qbV_s, qbR_s, qbR_n, qbN_s, qbN_n, qbIX_s, qbIX_n, qbVX_s, qbVX_n, cond_true, cond_false, cond_dec, jadd, jsub, jmul, jneg, li_0, li_1, li_2, li_3, li_4, li_5, li_6, li_7, li_8, li_9, li_10, li_14, li_15, li_16, li_19, li_20, li_24, li_30, li_31, li_32, li_39, li_40, li_48, li_57, li_59, li_60, li_63, li_65, li_80, li_81, li_90, li_97, li_99, li_100, li_122, li_126, li_127, li_150, li_160, li_200, li_225, li_255, li_400, li_799, li_800, li_999, li_2400, li_3239, li_3240, li_1048575, li_1431655765, li_858993459, li_252645135, eqb_j, ltb_j, leb_j, inb_j, ix_j, ix_n, nz_b, nz_0, nz_1, eqb_b, bnot, vI_ne, vI_eq, gIL, gLI, gIR, gRI, gLR, gRL, Int.reduceLT, Int.reduceLE, Int.reduceEq, Int.reduceAdd, Int.reduceSub, Int.reduceMul, Int.reduceNeg, Int.reduceToNat, Nat.reduceEqDiff, reduceIte, if_neg, if_pos, gI_ne, iA, fA, oA, gIv 91, gIv 92, gIv 87, gIv 88, gIv 89, c91, c92, c87, c88, c89, show bI true = 1 from rfl, show bI false = 0 from rfl, show (-1 : Int32) = Zi (-1) from rfl]
      · rw [key, decide_eq_false (fun z => g3 z.2.2.1)]
        simp (disch := omega) only [fX1_isHere_0, fX1_isHere_38, fX1_isHere_66, fX1_isHere_63, qbI_s, qbL_s, qbV_s, qbR_s, qbR_n, qbN_s, qbN_n, qbIX_s, qbIX_n, qbVX_s, qbVX_n, cond_true, cond_false, cond_dec, jadd, jsub, jmul, jneg, li_0, li_1, li_2, li_3, li_4, li_5, li_6, li_7, li_8, li_9, li_10, li_14, li_15, li_16, li_19, li_20, li_24, li_30, li_31, li_32, li_39, li_40, li_48, li_57, li_59, li_60, li_63, li_65, li_80, li_81, li_90, li_97, li_99, li_100, li_122, li_126, li_127, li_150, li_160, li_200, li_225, li_255, li_400, li_799, li_800, li_999, li_2400, li_3239, li_3240, li_1048575, li_1431655765, li_858993459, li_252645135, eqb_j, ltb_j, leb_j, inb_j, ix_j, ix_n, nz_b, nz_0, nz_1, eqb_b, bnot, vI_ne, vI_eq, gIL, gLI, gIR, gRI, gLR, gRL, Int.reduceLT, Int.reduceLE, Int.reduceEq, Int.reduceAdd, Int.reduceSub, Int.reduceMul, Int.reduceNeg, Int.reduceToNat, Nat.reduceEqDiff, reduceIte, if_neg, if_pos, gI_ne, iA, fA, gIv 91, gIv 92, gIv 87, c91, c92, c87, show bI true = 1 from rfl, show bI false = 0 from rfl]
    · rw [key, decide_eq_false (fun z => g2 z.2.1)]
      simp (disch := omega) only [fX1_isHere_0, fX1_isHere_38, fX1_isHere_66, fX1_isHere_63, qbI_s, qbL_s, qbV_s, qbR_s, qbR_n, qbN_s, qbN_n, qbIX_s, qbIX_n, qbVX_s, qbVX_n, cond_true, cond_false, cond_dec, jadd, jsub, jmul, jneg, li_0, li_1, li_2, li_3, li_4, li_5, li_6, li_7, li_8, li_9, li_10, li_14, li_15, li_16, li_19, li_20, li_24, li_30, li_31, li_32, li_39, li_40, li_48, li_57, li_59, li_60, li_63, li_65, li_80, li_81, li_90, li_97, li_99, li_100, li_122, li_126, li_127, li_150, li_160, li_200, li_225, li_255, li_400, li_799, li_800, li_999, li_2400, li_3239, li_3240, li_1048575, li_1431655765, li_858993459, li_252645135, eqb_j, ltb_j, leb_j, inb_j, ix_j, ix_n, nz_b, nz_0, nz_1, eqb_b, bnot, vI_ne, vI_eq, gIL, gLI, gIR, gRI, gLR, gRL, Int.reduceLT, Int.reduceLE, Int.reduceEq, Int.reduceAdd, Int.reduceSub, Int.reduceMul, Int.reduceNeg, Int.reduceToNat, Nat.reduceEqDiff, reduceIte, if_neg, if_pos, gI_ne, iA, fA, gIv 91, gIv 92, c91, c92, show bI true = 1 from rfl, show bI false = 0 from rfl]
  · rw [key, decide_eq_false (fun z => g1 z.1)]
    simp (disch := omega) only [fX1_isHere_0, fX1_isHere_38, fX1_isHere_66, fX1_isHere_63, qbI_s, qbL_s, qbV_s, qbR_s, qbR_n, qbN_s, qbN_n, qbIX_s, qbIX_n, qbVX_s, qbVX_n, cond_true, cond_false, cond_dec, jadd, jsub, jmul, jneg, li_0, li_1, li_2, li_3, li_4, li_5, li_6, li_7, li_8, li_9, li_10, li_14, li_15, li_16, li_19, li_20, li_24, li_30, li_31, li_32, li_39, li_40, li_48, li_57, li_59, li_60, li_63, li_65, li_80, li_81, li_90, li_97, li_99, li_100, li_122, li_126, li_127, li_150, li_160, li_200, li_225, li_255, li_400, li_799, li_800, li_999, li_2400, li_3239, li_3240, li_1048575, li_1431655765, li_858993459, li_252645135, eqb_j, ltb_j, leb_j, inb_j, ix_j, ix_n, nz_b, nz_0, nz_1, eqb_b, bnot, vI_ne, vI_eq, gIL, gLI, gIR, gRI, gLR, gRL, Int.reduceLT, Int.reduceLE, Int.reduceEq, Int.reduceAdd, Int.reduceSub, Int.reduceMul, Int.reduceNeg, Int.reduceToNat, Nat.reduceEqDiff, reduceIte, if_neg, if_pos, gI_ne, iA, fA, gIv 91, c91, show bI true = 1 from rfl, show bI false = 0 from rfl]
theorem hereM {d s : Nat → Nat → Int} {K : Nat} {v : qM} (hD : DOk d) (hS : SI d s) (h : MS d s K v) (a : Nat) (ha : (a : Int) < d 98 32) (u : Int) (hu : 0 ≤ u ∧ u ≤ 800) : fX13_isHere (Zi a) (Zi u) v = some (Zi (bI (hrB d s a u)), v) := by
  have hM := MS.ok hD h
  obtain ⟨h1, h2, h3⟩ := h
  obtain ⟨s1, s2, s3, s4, s5⟩ := hS
  have n1 := hD.2.2.2.2.1
  have n2 := hD.2.2.2.2.2.1
  obtain ⟨k1, k2, -⟩ := hD.2.2.2.2.2.2 a ha
  obtain ⟨f, hf⟩ : ∃ f : Nat, d 123 a = f := ⟨(d 123 a).toNat, by omega⟩
  obtain ⟨t, ht⟩ : ∃ t : Nat, d 124 a = t := ⟨(d 124 a).toNat, by omega⟩
  have pF := (hD.2.2.1 f (by omega)).2.1
  obtain ⟨k, hk⟩ : ∃ k : Nat, d 118 f = k := ⟨(d 118 f).toNat, by omega⟩
  obtain ⟨q1, q2, q3⟩ := s1 f (by omega)
  have q4 := s2 k (by omega)
  have q5 := (s5 a ha).2.2.2.1
  have e123 : vI v 123 a = f := by rw [h1 123 a (by unfold dE; omega), hf]
  have e124 : vI v 124 a = t := by rw [h1 124 a (by unfold dE; omega), ht]
  have e118 : vI v 118 f = k := by rw [h1 118 f (by unfold dE; omega), hk]
  have e148 := h2 148 a (by unfold dyn; omega)
  have e140 := h2 140 f (by unfold dyn; omega)
  have e145 := h2 145 f (by unfold dyn; omega)
  have e146 := h2 146 f (by unfold dyn; omega)
  have e147 := h2 147 k (by unfold dyn; omega)
  have key : hrB d s a u = decide (s 148 a = 0 ∧ s 140 f ≤ u ∧ s 145 f ≤ u ∧ s 147 k ≤ u ∧ (s 146 f = -1 ∨ s 145 f + wkV d (s 146 f).toNat t ≤ u)) := by
    unfold hrB
    simp only [hf, ht, hk, Int.toNat_natCast]
  have tail : fX13_isHere_49 (Zi u) (Zi f) v = some (Zi (bI (decide (s 147 k ≤ u))), v) := by
    by_cases g0 : k = 0
    · subst g0
      rw [decide_eq_true (by omega)]
      simp (disch := omega) only [fX13_isHere_49, fX13_isHere_66, fX13_isHere_63, qbI_s, qbL_s, qbV_s, qbR_s, qbR_n, qbN_s, qbN_n, qbIX_s, qbIX_n, qbVX_s, qbVX_n, cond_true, cond_false, cond_dec, jadd, jsub, jmul, jneg, li_0, li_1, li_2, li_3, li_4, li_5, li_6, li_7, li_8, li_9, li_10, li_14, li_15, li_16, li_19, li_20, li_24, li_30, li_31, li_32, li_39, li_40, li_48, li_57, li_59, li_60, li_63, li_65, li_80, li_81, li_90, li_97, li_99, li_100, li_122, li_126, li_127, li_150, li_160, li_200, li_225, li_255, li_400, li_799, li_800, li_999, li_2400, li_3239, li_3240, li_1048575, li_1431655765, li_858993459, li_252645135, eqb_j, ltb_j, leb_j, inb_j, ix_j, ix_n, nz_b, nz_0, nz_1, eqb_b, bnot, vI_ne, vI_eq, gIL, gLI, gIR, gRI, gLR, gRL, Int.reduceLT, Int.reduceLE, Int.reduceEq, Int.reduceAdd, Int.reduceSub, Int.reduceMul, Int.reduceNeg, Int.reduceToNat, Nat.reduceEqDiff, reduceIte, if_neg, if_pos, gI_ne, gIv 118, e118, show bI true = 1 from rfl]
    · by_cases g4 : s 147 k ≤ u
      · rw [decide_eq_true g4]
        simp (disch := omega) only [fX13_isHere_49, fX13_isHere_66, fX13_isHere_63, qbI_s, qbL_s, qbV_s, qbR_s, qbR_n, qbN_s, qbN_n, qbIX_s, qbIX_n, qbVX_s, qbVX_n, cond_true, cond_false, cond_dec, jadd, jsub, jmul, jneg, li_0, li_1, li_2, li_3, li_4, li_5, li_6, li_7, li_8, li_9, li_10, li_14, li_15, li_16, li_19, li_20, li_24, li_30, li_31, li_32, li_39, li_40, li_48, li_57, li_59, li_60, li_63, li_65, li_80, li_81, li_90, li_97, li_99, li_100, li_122, li_126, li_127, li_150, li_160, li_200, li_225, li_255, li_400, li_799, li_800, li_999, li_2400, li_3239, li_3240, li_1048575, li_1431655765, li_858993459, li_252645135, eqb_j, ltb_j, leb_j, inb_j, ix_j, ix_n, nz_b, nz_0, nz_1, eqb_b, bnot, vI_ne, vI_eq, gIL, gLI, gIR, gRI, gLR, gRL, Int.reduceLT, Int.reduceLE, Int.reduceEq, Int.reduceAdd, Int.reduceSub, Int.reduceMul, Int.reduceNeg, Int.reduceToNat, Nat.reduceEqDiff, reduceIte, if_neg, if_pos, gI_ne, gIv 118, e118, gIv 147, e147, show bI true = 1 from rfl]
      · rw [decide_eq_false g4]
        simp (disch := omega) only [fX13_isHere_49, fX13_isHere_66, fX13_isHere_63, qbI_s, qbL_s, qbV_s, qbR_s, qbR_n, qbN_s, qbN_n, qbIX_s, qbIX_n, qbVX_s, qbVX_n, cond_true, cond_false, cond_dec, jadd, jsub, jmul, jneg, li_0, li_1, li_2, li_3, li_4, li_5, li_6, li_7, li_8, li_9, li_10, li_14, li_15, li_16, li_19, li_20, li_24, li_30, li_31, li_32, li_39, li_40, li_48, li_57, li_59, li_60, li_63, li_65, li_80, li_81, li_90, li_97, li_99, li_100, li_122, li_126, li_127, li_150, li_160, li_200, li_225, li_255, li_400, li_799, li_800, li_999, li_2400, li_3239, li_3240, li_1048575, li_1431655765, li_858993459, li_252645135, eqb_j, ltb_j, leb_j, inb_j, ix_j, ix_n, nz_b, nz_0, nz_1, eqb_b, bnot, vI_ne, vI_eq, gIL, gLI, gIR, gRI, gLR, gRL, Int.reduceLT, Int.reduceLE, Int.reduceEq, Int.reduceAdd, Int.reduceSub, Int.reduceMul, Int.reduceNeg, Int.reduceToNat, Nat.reduceEqDiff, reduceIte, if_neg, if_pos, gI_ne, gIv 118, e118, gIv 147, e147, show bI false = 0 from rfl]
  rw [fX13_isHere_d]
  by_cases g1 : s 148 a = 0
  · by_cases g2 : s 140 f ≤ u
    · by_cases g3 : s 145 f ≤ u
      · by_cases g5 : s 146 f = -1
        · rw [key, show decide (s 148 a = 0 ∧ s 140 f ≤ u ∧ s 145 f ≤ u ∧ s 147 k ≤ u ∧ (s 146 f = -1 ∨ s 145 f + wkV d (s 146 f).toNat t ≤ u)) = decide (s 147 k ≤ u) from decide_eq_decide.mpr ⟨fun z => z.2.2.2.1, fun z => ⟨g1, g2, g3, z, Or.inl g5⟩⟩]
          simp (disch := omega) only [fX13_isHere_0, qbI_s, qbL_s, qbV_s, qbR_s, qbR_n, qbN_s, qbN_n, qbIX_s, qbIX_n, qbVX_s, qbVX_n, cond_true, cond_false, cond_dec, jadd, jsub, jmul, jneg, li_0, li_1, li_2, li_3, li_4, li_5, li_6, li_7, li_8, li_9, li_10, li_14, li_15, li_16, li_19, li_20, li_24, li_30, li_31, li_32, li_39, li_40, li_48, li_57, li_59, li_60, li_63, li_65, li_80, li_81, li_90, li_97, li_99, li_100, li_122, li_126, li_127, li_150, li_160, li_200, li_225, li_255, li_400, li_799, li_800, li_999, li_2400, li_3239, li_3240, li_1048575, li_1431655765, li_858993459, li_252645135, eqb_j, ltb_j, leb_j, inb_j, ix_j, ix_n, nz_b, nz_0, nz_1, eqb_b, bnot, vI_ne, vI_eq, gIL, gLI, gIR, gRI, gLR, gRL, Int.reduceLT, Int.reduceLE, Int.reduceEq, Int.reduceAdd, Int.reduceSub, Int.reduceMul, Int.reduceNeg, Int.reduceToNat, Nat.reduceEqDiff, reduceIte, if_neg, if_pos, gI_ne, gIv 123, e123, gIv 148, e148, gIv 140, e140, gIv 145, e145, gIv 146, e146, g5, tail, show (-1 : Int32) = Zi (-1) from rfl]
        · obtain ⟨p, hp⟩ : ∃ p : Nat, s 146 f = p := ⟨(s 146 f).toNat, by omega⟩
          have wA := walkOfM v hM p t (by omega) (by omega)
          have we : wkV (vI v) p t = wkV d p t := by
            unfold wkV
            simp (disch := (unfold dE; omega)) only [h1]
          rw [we] at wA
          have wr := wkD_r d hD p t (by omega) (by omega)
          by_cases g6 : s 145 f + wkV d p t ≤ u
          · rw [key, show decide (s 148 a = 0 ∧ s 140 f ≤ u ∧ s 145 f ≤ u ∧ s 147 k ≤ u ∧ (s 146 f = -1 ∨ s 145 f + wkV d (s 146 f).toNat t ≤ u)) = decide (s 147 k ≤ u) from decide_eq_decide.mpr ⟨fun z => z.2.2.2.1, fun z => ⟨g1, g2, g3, z, Or.inr (by rw [hp, Int.toNat_natCast]; exact g6)⟩⟩]
            simp (disch := omega) only [fX13_isHere_0, qbI_s, qbL_s, qbV_s, qbR_s, qbR_n, qbN_s, qbN_n, qbIX_s, qbIX_n, qbVX_s, qbVX_n, cond_true, cond_false, cond_dec, jadd, jsub, jmul, jneg, li_0, li_1, li_2, li_3, li_4, li_5, li_6, li_7, li_8, li_9, li_10, li_14, li_15, li_16, li_19, li_20, li_24, li_30, li_31, li_32, li_39, li_40, li_48, li_57, li_59, li_60, li_63, li_65, li_80, li_81, li_90, li_97, li_99, li_100, li_122, li_126, li_127, li_150, li_160, li_200, li_225, li_255, li_400, li_799, li_800, li_999, li_2400, li_3239, li_3240, li_1048575, li_1431655765, li_858993459, li_252645135, eqb_j, ltb_j, leb_j, inb_j, ix_j, ix_n, nz_b, nz_0, nz_1, eqb_b, bnot, vI_ne, vI_eq, gIL, gLI, gIR, gRI, gLR, gRL, Int.reduceLT, Int.reduceLE, Int.reduceEq, Int.reduceAdd, Int.reduceSub, Int.reduceMul, Int.reduceNeg, Int.reduceToNat, Nat.reduceEqDiff, reduceIte, if_neg, if_pos, gI_ne, gIv 123, e123, gIv 124, e124, gIv 148, e148, gIv 140, e140, gIv 145, e145, gIv 146, e146, hp, wA, tail, show (-1 : Int32) = Zi (-1) from rfl]
          · rw [key, decide_eq_false (fun z => by rw [hp, Int.toNat_natCast] at z; omega)]
            simp (disch := omega) only [fX13_isHere_0, qbI_s, qbL_s, qbV_s, qbR_s, qbR_n, qbN_s, qbN_n, qbIX_s, qbIX_n, qbVX_s, qbVX_n, cond_true, cond_false, cond_dec, jadd, jsub, jmul, jneg, li_0, li_1, li_2, li_3, li_4, li_5, li_6, li_7, li_8, li_9, li_10, li_14, li_15, li_16, li_19, li_20, li_24, li_30, li_31, li_32, li_39, li_40, li_48, li_57, li_59, li_60, li_63, li_65, li_80, li_81, li_90, li_97, li_99, li_100, li_122, li_126, li_127, li_150, li_160, li_200, li_225, li_255, li_400, li_799, li_800, li_999, li_2400, li_3239, li_3240, li_1048575, li_1431655765, li_858993459, li_252645135, eqb_j, ltb_j, leb_j, inb_j, ix_j, ix_n, nz_b, nz_0, nz_1, eqb_b, bnot, vI_ne, vI_eq, gIL, gLI, gIR, gRI, gLR, gRL, Int.reduceLT, Int.reduceLE, Int.reduceEq, Int.reduceAdd, Int.reduceSub, Int.reduceMul, Int.reduceNeg, Int.reduceToNat, Nat.reduceEqDiff, reduceIte, if_neg, if_pos, gI_ne, gIv 123, e123, gIv 124, e124, gIv 148, e148, gIv 140, e140, gIv 145, e145, gIv 146, e146, hp, wA, show bI false = 0 from rfl, show (-1 : Int32) = Zi (-1) from rfl]
      · rw [key, decide_eq_false (fun z => g3 z.2.2.1)]
        simp (disch := omega) only [fX13_isHere_0, fX13_isHere_22, qbI_s, qbL_s, qbV_s, qbR_s, qbR_n, qbN_s, qbN_n, qbIX_s, qbIX_n, qbVX_s, qbVX_n, cond_true, cond_false, cond_dec, jadd, jsub, jmul, jneg, li_0, li_1, li_2, li_3, li_4, li_5, li_6, li_7, li_8, li_9, li_10, li_14, li_15, li_16, li_19, li_20, li_24, li_30, li_31, li_32, li_39, li_40, li_48, li_57, li_59, li_60, li_63, li_65, li_80, li_81, li_90, li_97, li_99, li_100, li_122, li_126, li_127, li_150, li_160, li_200, li_225, li_255, li_400, li_799, li_800, li_999, li_2400, li_3239, li_3240, li_1048575, li_1431655765, li_858993459, li_252645135, eqb_j, ltb_j, leb_j, inb_j, ix_j, ix_n, nz_b, nz_0, nz_1, eqb_b, bnot, vI_ne, vI_eq, gIL, gLI, gIR, gRI, gLR, gRL, Int.reduceLT, Int.reduceLE, Int.reduceEq, Int.reduceAdd, Int.reduceSub, Int.reduceMul, Int.reduceNeg, Int.reduceToNat, Nat.reduceEqDiff, reduceIte, if_neg, if_pos, gI_ne, gIv 123, e123, gIv 148, e148, gIv 140, e140, gIv 145, e145, show bI false = 0 from rfl]
    · rw [key, decide_eq_false (fun z => g2 z.2.1)]
      simp (disch := omega) only [fX13_isHere_0, fX13_isHere_22, qbI_s, qbL_s, qbV_s, qbR_s, qbR_n, qbN_s, qbN_n, qbIX_s, qbIX_n, qbVX_s, qbVX_n, cond_true, cond_false, cond_dec, jadd, jsub, jmul, jneg, li_0, li_1, li_2, li_3, li_4, li_5, li_6, li_7, li_8, li_9, li_10, li_14, li_15, li_16, li_19, li_20, li_24, li_30, li_31, li_32, li_39, li_40, li_48, li_57, li_59, li_60, li_63, li_65, li_80, li_81, li_90, li_97, li_99, li_100, li_122, li_126, li_127, li_150, li_160, li_200, li_225, li_255, li_400, li_799, li_800, li_999, li_2400, li_3239, li_3240, li_1048575, li_1431655765, li_858993459, li_252645135, eqb_j, ltb_j, leb_j, inb_j, ix_j, ix_n, nz_b, nz_0, nz_1, eqb_b, bnot, vI_ne, vI_eq, gIL, gLI, gIR, gRI, gLR, gRL, Int.reduceLT, Int.reduceLE, Int.reduceEq, Int.reduceAdd, Int.reduceSub, Int.reduceMul, Int.reduceNeg, Int.reduceToNat, Nat.reduceEqDiff, reduceIte, if_neg, if_pos, gI_ne, gIv 123, e123, gIv 148, e148, gIv 140, e140, show bI false = 0 from rfl]
  · rw [key, decide_eq_false (fun z => g1 z.1)]
    simp (disch := omega) only [fX13_isHere_0, fX13_isHere_22, qbI_s, qbL_s, qbV_s, qbR_s, qbR_n, qbN_s, qbN_n, qbIX_s, qbIX_n, qbVX_s, qbVX_n, cond_true, cond_false, cond_dec, jadd, jsub, jmul, jneg, li_0, li_1, li_2, li_3, li_4, li_5, li_6, li_7, li_8, li_9, li_10, li_14, li_15, li_16, li_19, li_20, li_24, li_30, li_31, li_32, li_39, li_40, li_48, li_57, li_59, li_60, li_63, li_65, li_80, li_81, li_90, li_97, li_99, li_100, li_122, li_126, li_127, li_150, li_160, li_200, li_225, li_255, li_400, li_799, li_800, li_999, li_2400, li_3239, li_3240, li_1048575, li_1431655765, li_858993459, li_252645135, eqb_j, ltb_j, leb_j, inb_j, ix_j, ix_n, nz_b, nz_0, nz_1, eqb_b, bnot, vI_ne, vI_eq, gIL, gLI, gIR, gRI, gLR, gRL, Int.reduceLT, Int.reduceLE, Int.reduceEq, Int.reduceAdd, Int.reduceSub, Int.reduceMul, Int.reduceNeg, Int.reduceToNat, Nat.reduceEqDiff, reduceIte, if_neg, if_pos, gI_ne, gIv 148, e148, show bI false = 0 from rfl]
