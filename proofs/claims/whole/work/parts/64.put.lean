/-! an ask is laid, or taken out, in the class's plan -/
def upS (d : Nat → Nat → Int) (a : Nat) (s : Int) : Nat → Nat → Int := fun c k => if c = 125 then (if k = a then s else d 125 k) else d c k
theorem upS_ne (d : Nat → Nat → Int) (a : Nat) (s : Int) {c k : Nat} (h : ¬ c = 125) : upS d a s c k = d c k := if_neg h
theorem upS_eq (d : Nat → Nat → Int) (a : Nat) (s : Int) (k : Nat) : upS d a s 125 k = if k = a then s else d 125 k := rfl
theorem upS_up (d : Nat → Nat → Int) (a : Nat) (s s2 : Int) : upS (upS d a s) a s2 = upS d a s2 := by
  funext c k
  unfold upS
  by_cases h : c = 125
  · simp only [h, if_true]
    by_cases g : k = a
    · rw [if_pos g, if_pos g]
    · rw [if_neg g, if_neg g, if_neg g]
  · simp only [if_neg h]
theorem upS_self (d : Nat → Nat → Int) (a : Nat) : upS d a (d 125 a) = d := by
  funext c k
  unfold upS
  by_cases h : c = 125
  · rw [if_pos h, h]
    by_cases g : k = a
    · rw [if_pos g, g]
    · rw [if_neg g]
  · rw [if_neg h]
/-- nobody of an ask's is elsewhere in a slot -/
def NC (d : Nat → Nat → Int) (a s : Nat) : Prop := ∀ o : Nat, (o : Int) < d 98 32 → o ≠ a → d 125 o = s → d 123 o ≠ d 123 a ∧ d 124 o ≠ d 124 a ∧ ¬ (0 < d 118 (d 123 a).toNat ∧ d 118 (d 123 o).toNat = d 118 (d 123 a).toNat)
theorem NC.of_mb {d : Nat → Nat → Int} {a s : Nat} (h : mbV d a s = true) : NC d a s := by
  intro o ho hoa hs
  simp only [mbV, Bool.and_eq_true, pd_iff] at h
  have h2 := (h.2.1 o ho (by omega)).1
  exact ⟨fun z => h2 ⟨hs, Or.inl z⟩, fun z => h2 ⟨hs, Or.inr (Or.inl z)⟩, fun z => h2 ⟨hs, Or.inr (Or.inr z)⟩⟩
def ptAt (d : Nat → Nat → Int) (a s : Nat) : Int := if d 119 (d 123 a).toNat ≤ s ∧ (s : Int) ≤ d 120 (d 123 a).toNat then 1 + d 121 (d 123 a).toNat else 0
theorem pt_s (m : qM) (d : Nat → Nat → Int) (a s f : Nat) (ha : a < 40) (hf : f < 15) (hs : s < 32) (hdf : d 123 a = f) (h59 : vI m 59 a = f) (hb : bt (gI m 53 f) s = decide (d 119 f ≤ s ∧ (s : Int) ≤ d 120 f)) (hy : vI m 54 f = d 121 f) : fX4_pointsIn (Zi a) (Zi s) m = some (Zi (ptAt d a s), m) := by
  have hh := has_s (gI m 53 f) s hs m
  rw [hb] at hh
  rw [fX4_pointsIn_d]
  simp (disch := omega) only [fX4_pointsIn_0, fX4_pointsIn_20, fX3_wishOf_d, fX3_wishOf_0, fX3_yearsOf_d, fX3_yearsOf_0, qbI_s, qbL_s, qbV_s, qbR_s, qbR_n, qbN_s, qbN_n, qbIX_s, qbIX_n, qbVX_s, qbVX_n, cond_true, cond_false, cond_dec, jadd, jsub, jmul, jneg, li_0, li_1, li_2, li_3, li_4, li_5, li_6, li_7, li_8, li_9, li_10, li_14, li_15, li_16, li_19, li_20, li_24, li_30, li_31, li_32, li_39, li_40, li_48, li_57, li_59, li_60, li_63, li_65, li_80, li_81, li_90, li_97, li_99, li_100, li_122, li_126, li_127, li_150, li_160, li_200, li_225, li_255, li_400, li_799, li_800, li_999, li_2400, li_3239, li_3240, li_1048575, li_1431655765, li_858993459, li_252645135, eqb_j, ltb_j, leb_j, inb_j, ix_j, ix_n, nz_b, nz_0, nz_1, eqb_b, bnot, vI_ne, vI_eq, gIL, gLI, gIR, gRI, gLR, gRL, Int.reduceLT, Int.reduceLE, Int.reduceEq, Int.reduceAdd, Int.reduceSub, Int.reduceMul, Int.reduceNeg, Int.reduceToNat, Nat.reduceEqDiff, reduceIte, if_neg, if_pos, gI_ne, gIv 59, h59, hh, gIv 54, hy, ptAt, hdf]
  split <;> rfl
/-- a slot's bits are turned over for all of an ask's -/
theorem mark_s (m : qM) (d : Nat → Nat → Int) (hC : CAll m d) (a s f t : Nat) (ha : (a : Int) < d 98 32) (hs : s < 20) (hdf : d 123 a = f) (hdt : d 124 a = t) : wp (fX4_mark (Zi a) (Zi s) m) (fun _ m' => (∀ k s', k < 15 → s' < 32 → bt (gI m' 65 k) s' = (bt (gI m 65 k) s' ^^ decide (k = f ∧ s' = s))) ∧ (∀ k, k ≠ f → gI m' 65 k = gI m 65 k) ∧ (∀ k s', k < 10 → s' < 32 → bt (gI m' 66 k) s' = (bt (gI m 66 k) s' ^^ decide (k = t ∧ s' = s))) ∧ (∀ k s', 0 < k → k < 4 → s' < 32 → bt (gI m' 67 k) s' = (bt (gI m 67 k) s' ^^ decide ((k : Int) = d 118 f ∧ s' = s))) ∧ vI m' 58 15 = vI m 58 15 - gapN (gI m 65 f) + gapN (gI m' 65 f) ∧ Fr (fun c k => c = 65 ∨ c = 66 ∨ c = 67 ∨ c = 58 ∧ k = 15) m m') := by
  obtain ⟨hRu, hPt, hPf, hAp, hWk, hAs, hPa, hCl, hDi, hBi, hCn⟩ := hC
  obtain ⟨e1, e2, e3, e4⟩ := hAs
  obtain ⟨k1, k2, k3, k4⟩ := e4 a ha
  have c59 : gI m 59 a = Zi f := by rw [gIv 59, k1.1, hdf]
  have c60 : gI m 60 a = Zi t := by rw [gIv 60, k2.1, hdt]
  have pF := (hPf f (by omega)).2.2.1
  have h31 : bt (gI m 65 f) 31 = false := by
    rw [hBi.1 f 31 (by omega) (by omega)]
    exact pd_f fun ⟨o, h1, h2, h3⟩ => by have := (e4 o h1).2.2.2; omega
  have h31' : bt (gI m 65 f ^^^ ((1 : Int32) <<< (nI s &&& 31))) 31 = false := by
    rw [bt_flip _ (by omega) (by omega), if_neg (by omega)]
    exact h31
  have xr : ∀ (x : Int32) (s' : Nat), s' < 32 → bt (x ^^^ ((1 : Int32) <<< (nI s &&& 31))) s' = (bt x s' ^^ decide (s' = s)) := fun x s' h => by rw [b_xor, b_one (by omega) h]
  have g1 := gaps_s (gI m 65 f) h31
  have g2 := gaps_s (gI m 65 f ^^^ ((1 : Int32) <<< (nI s &&& 31))) h31'
  have gl1 : gapN (gI m 65 f) ≤ 32 := fb_ct_le _ _
  have gl2 : gapN (gI m 65 f ^^^ ((1 : Int32) <<< (nI s &&& 31))) ≤ 32 := fb_ct_le _ _
  have b15 : 0 ≤ vI m 58 15 ∧ vI m 58 15 ≤ 480 := by
    rw [hCn.2.2.2.1]
    have := fb_sm_bound (f := fun f => gapN (gI m 65 f)) (c := 32) (n := 15) (fun k _ => fb_ct_le _ _)
    omega
  rw [show ((1 : Int32) <<< (nI s &&& 31)) = (Zi 1 <<< (Zi s &&& Zi 31)) from by rw [Zn]; rfl] at g2 h31' gl2 xr
  by_cases h0 : d 118 f = 0
  · refine wp_e (by
      rw [fX4_mark_d]
      simp (disch := omega) only [fX4_mark_0, fX4_mark_64, qbI_s, qbL_s, qbV_s, qbR_s, qbR_n, qbN_s, qbN_n, qbIX_s, qbIX_n, qbVX_s, qbVX_n, cond_true, cond_false, cond_dec, jadd, jsub, jmul, jneg, li_0, li_1, li_2, li_3, li_4, li_5, li_6, li_7, li_8, li_9, li_10, li_14, li_15, li_16, li_19, li_20, li_24, li_30, li_31, li_32, li_39, li_40, li_48, li_57, li_59, li_60, li_63, li_65, li_80, li_81, li_90, li_97, li_99, li_100, li_122, li_126, li_127, li_150, li_160, li_200, li_225, li_255, li_400, li_799, li_800, li_999, li_2400, li_3239, li_3240, li_1048575, li_1431655765, li_858993459, li_252645135, eqb_j, ltb_j, leb_j, inb_j, ix_j, ix_n, nz_b, nz_0, nz_1, eqb_b, bnot, vI_ne, vI_eq, gIL, gLI, gIR, gRI, gLR, gRL, Int.reduceLT, Int.reduceLE, Int.reduceEq, Int.reduceAdd, Int.reduceSub, Int.reduceMul, Int.reduceNeg, Int.reduceToNat, Nat.reduceEqDiff, reduceIte, if_neg, if_pos, gI_ne, c59, c60, gI_eq, g1, g2, gIv 58, fX3_tongueOf_d, fX3_tongueOf_0, gIv 52, pF.1, h0]
      rfl) ⟨?_, ?_, ?_, ?_, ?_, ?_⟩
    · intro k s' hk h
      simp (disch := omega) only [qbI_s, qbL_s, qbV_s, qbR_s, qbR_n, qbN_s, qbN_n, qbIX_s, qbIX_n, qbVX_s, qbVX_n, cond_true, cond_false, cond_dec, jadd, jsub, jmul, jneg, li_0, li_1, li_2, li_3, li_4, li_5, li_6, li_7, li_8, li_9, li_10, li_14, li_15, li_16, li_19, li_20, li_24, li_30, li_31, li_32, li_39, li_40, li_48, li_57, li_59, li_60, li_63, li_65, li_80, li_81, li_90, li_97, li_99, li_100, li_122, li_126, li_127, li_150, li_160, li_200, li_225, li_255, li_400, li_799, li_800, li_999, li_2400, li_3239, li_3240, li_1048575, li_1431655765, li_858993459, li_252645135, eqb_j, ltb_j, leb_j, inb_j, ix_j, ix_n, nz_b, nz_0, nz_1, eqb_b, bnot, vI_ne, vI_eq, gIL, gLI, gIR, gRI, gLR, gRL, Int.reduceLT, Int.reduceLE, Int.reduceEq, Int.reduceAdd, Int.reduceSub, Int.reduceMul, Int.reduceNeg, Int.reduceToNat, Nat.reduceEqDiff, reduceIte, if_neg, if_pos, gI_ne, gI_eq]
      by_cases e : k = f
      · rw [if_pos e, xr _ _ h, e]
        simp
      · rw [if_neg e, decide_eq_false (fun z => e z.1), Bool.xor_false]
    · intro k hk
      simp (disch := omega) only [qbI_s, qbL_s, qbV_s, qbR_s, qbR_n, qbN_s, qbN_n, qbIX_s, qbIX_n, qbVX_s, qbVX_n, cond_true, cond_false, cond_dec, jadd, jsub, jmul, jneg, li_0, li_1, li_2, li_3, li_4, li_5, li_6, li_7, li_8, li_9, li_10, li_14, li_15, li_16, li_19, li_20, li_24, li_30, li_31, li_32, li_39, li_40, li_48, li_57, li_59, li_60, li_63, li_65, li_80, li_81, li_90, li_97, li_99, li_100, li_122, li_126, li_127, li_150, li_160, li_200, li_225, li_255, li_400, li_799, li_800, li_999, li_2400, li_3239, li_3240, li_1048575, li_1431655765, li_858993459, li_252645135, eqb_j, ltb_j, leb_j, inb_j, ix_j, ix_n, nz_b, nz_0, nz_1, eqb_b, bnot, vI_ne, vI_eq, gIL, gLI, gIR, gRI, gLR, gRL, Int.reduceLT, Int.reduceLE, Int.reduceEq, Int.reduceAdd, Int.reduceSub, Int.reduceMul, Int.reduceNeg, Int.reduceToNat, Nat.reduceEqDiff, reduceIte, if_neg, if_pos, gI_ne, gI_eq, if_neg hk]
    · intro k s' hk h
      simp (disch := omega) only [qbI_s, qbL_s, qbV_s, qbR_s, qbR_n, qbN_s, qbN_n, qbIX_s, qbIX_n, qbVX_s, qbVX_n, cond_true, cond_false, cond_dec, jadd, jsub, jmul, jneg, li_0, li_1, li_2, li_3, li_4, li_5, li_6, li_7, li_8, li_9, li_10, li_14, li_15, li_16, li_19, li_20, li_24, li_30, li_31, li_32, li_39, li_40, li_48, li_57, li_59, li_60, li_63, li_65, li_80, li_81, li_90, li_97, li_99, li_100, li_122, li_126, li_127, li_150, li_160, li_200, li_225, li_255, li_400, li_799, li_800, li_999, li_2400, li_3239, li_3240, li_1048575, li_1431655765, li_858993459, li_252645135, eqb_j, ltb_j, leb_j, inb_j, ix_j, ix_n, nz_b, nz_0, nz_1, eqb_b, bnot, vI_ne, vI_eq, gIL, gLI, gIR, gRI, gLR, gRL, Int.reduceLT, Int.reduceLE, Int.reduceEq, Int.reduceAdd, Int.reduceSub, Int.reduceMul, Int.reduceNeg, Int.reduceToNat, Nat.reduceEqDiff, reduceIte, if_neg, if_pos, gI_ne, gI_eq]
      by_cases e : k = t
      · rw [if_pos e, xr _ _ h, e]
        simp
      · rw [if_neg e, decide_eq_false (fun z => e z.1), Bool.xor_false]
    · intro k s' hk hk2 h
      simp (disch := omega) only [qbI_s, qbL_s, qbV_s, qbR_s, qbR_n, qbN_s, qbN_n, qbIX_s, qbIX_n, qbVX_s, qbVX_n, cond_true, cond_false, cond_dec, jadd, jsub, jmul, jneg, li_0, li_1, li_2, li_3, li_4, li_5, li_6, li_7, li_8, li_9, li_10, li_14, li_15, li_16, li_19, li_20, li_24, li_30, li_31, li_32, li_39, li_40, li_48, li_57, li_59, li_60, li_63, li_65, li_80, li_81, li_90, li_97, li_99, li_100, li_122, li_126, li_127, li_150, li_160, li_200, li_225, li_255, li_400, li_799, li_800, li_999, li_2400, li_3239, li_3240, li_1048575, li_1431655765, li_858993459, li_252645135, eqb_j, ltb_j, leb_j, inb_j, ix_j, ix_n, nz_b, nz_0, nz_1, eqb_b, bnot, vI_ne, vI_eq, gIL, gLI, gIR, gRI, gLR, gRL, Int.reduceLT, Int.reduceLE, Int.reduceEq, Int.reduceAdd, Int.reduceSub, Int.reduceMul, Int.reduceNeg, Int.reduceToNat, Nat.reduceEqDiff, reduceIte, if_neg, if_pos, gI_ne, gI_eq]
      rw [decide_eq_false (fun z => by omega), Bool.xor_false]
    · simp (disch := omega) only [qbI_s, qbL_s, qbV_s, qbR_s, qbR_n, qbN_s, qbN_n, qbIX_s, qbIX_n, qbVX_s, qbVX_n, cond_true, cond_false, cond_dec, jadd, jsub, jmul, jneg, li_0, li_1, li_2, li_3, li_4, li_5, li_6, li_7, li_8, li_9, li_10, li_14, li_15, li_16, li_19, li_20, li_24, li_30, li_31, li_32, li_39, li_40, li_48, li_57, li_59, li_60, li_63, li_65, li_80, li_81, li_90, li_97, li_99, li_100, li_122, li_126, li_127, li_150, li_160, li_200, li_225, li_255, li_400, li_799, li_800, li_999, li_2400, li_3239, li_3240, li_1048575, li_1431655765, li_858993459, li_252645135, eqb_j, ltb_j, leb_j, inb_j, ix_j, ix_n, nz_b, nz_0, nz_1, eqb_b, bnot, vI_ne, vI_eq, gIL, gLI, gIR, gRI, gLR, gRL, Int.reduceLT, Int.reduceLE, Int.reduceEq, Int.reduceAdd, Int.reduceSub, Int.reduceMul, Int.reduceNeg, Int.reduceToNat, Nat.reduceEqDiff, reduceIte, if_neg, if_pos, gI_ne, gI_eq]
    · exact Fr.wI (Fr.wI (Fr.wI (Fr.wI (Fr.rf m) _ _ _ (by omega)) _ _ _ (by omega)) _ _ _ (by omega)) _ _ _ (by omega)
  · obtain ⟨i, hi⟩ : ∃ i : Nat, d 118 f = i := ⟨(d 118 f).toNat, by omega⟩
    refine wp_e (by
      rw [fX4_mark_d]
      simp (disch := omega) only [fX4_mark_0, fX4_mark_64, qbI_s, qbL_s, qbV_s, qbR_s, qbR_n, qbN_s, qbN_n, qbIX_s, qbIX_n, qbVX_s, qbVX_n, cond_true, cond_false, cond_dec, jadd, jsub, jmul, jneg, li_0, li_1, li_2, li_3, li_4, li_5, li_6, li_7, li_8, li_9, li_10, li_14, li_15, li_16, li_19, li_20, li_24, li_30, li_31, li_32, li_39, li_40, li_48, li_57, li_59, li_60, li_63, li_65, li_80, li_81, li_90, li_97, li_99, li_100, li_122, li_126, li_127, li_150, li_160, li_200, li_225, li_255, li_400, li_799, li_800, li_999, li_2400, li_3239, li_3240, li_1048575, li_1431655765, li_858993459, li_252645135, eqb_j, ltb_j, leb_j, inb_j, ix_j, ix_n, nz_b, nz_0, nz_1, eqb_b, bnot, vI_ne, vI_eq, gIL, gLI, gIR, gRI, gLR, gRL, Int.reduceLT, Int.reduceLE, Int.reduceEq, Int.reduceAdd, Int.reduceSub, Int.reduceMul, Int.reduceNeg, Int.reduceToNat, Nat.reduceEqDiff, reduceIte, if_neg, if_pos, gI_ne, c59, c60, gI_eq, g1, g2, gIv 58, fX3_tongueOf_d, fX3_tongueOf_0, gIv 52, pF.1, hi]
      rfl) ⟨?_, ?_, ?_, ?_, ?_, ?_⟩
    · intro k s' hk h
      simp (disch := omega) only [qbI_s, qbL_s, qbV_s, qbR_s, qbR_n, qbN_s, qbN_n, qbIX_s, qbIX_n, qbVX_s, qbVX_n, cond_true, cond_false, cond_dec, jadd, jsub, jmul, jneg, li_0, li_1, li_2, li_3, li_4, li_5, li_6, li_7, li_8, li_9, li_10, li_14, li_15, li_16, li_19, li_20, li_24, li_30, li_31, li_32, li_39, li_40, li_48, li_57, li_59, li_60, li_63, li_65, li_80, li_81, li_90, li_97, li_99, li_100, li_122, li_126, li_127, li_150, li_160, li_200, li_225, li_255, li_400, li_799, li_800, li_999, li_2400, li_3239, li_3240, li_1048575, li_1431655765, li_858993459, li_252645135, eqb_j, ltb_j, leb_j, inb_j, ix_j, ix_n, nz_b, nz_0, nz_1, eqb_b, bnot, vI_ne, vI_eq, gIL, gLI, gIR, gRI, gLR, gRL, Int.reduceLT, Int.reduceLE, Int.reduceEq, Int.reduceAdd, Int.reduceSub, Int.reduceMul, Int.reduceNeg, Int.reduceToNat, Nat.reduceEqDiff, reduceIte, if_neg, if_pos, gI_ne, gI_eq]
      by_cases e : k = f
      · rw [if_pos e, xr _ _ h, e]
        simp
      · rw [if_neg e, decide_eq_false (fun z => e z.1), Bool.xor_false]
    · intro k hk
      simp (disch := omega) only [qbI_s, qbL_s, qbV_s, qbR_s, qbR_n, qbN_s, qbN_n, qbIX_s, qbIX_n, qbVX_s, qbVX_n, cond_true, cond_false, cond_dec, jadd, jsub, jmul, jneg, li_0, li_1, li_2, li_3, li_4, li_5, li_6, li_7, li_8, li_9, li_10, li_14, li_15, li_16, li_19, li_20, li_24, li_30, li_31, li_32, li_39, li_40, li_48, li_57, li_59, li_60, li_63, li_65, li_80, li_81, li_90, li_97, li_99, li_100, li_122, li_126, li_127, li_150, li_160, li_200, li_225, li_255, li_400, li_799, li_800, li_999, li_2400, li_3239, li_3240, li_1048575, li_1431655765, li_858993459, li_252645135, eqb_j, ltb_j, leb_j, inb_j, ix_j, ix_n, nz_b, nz_0, nz_1, eqb_b, bnot, vI_ne, vI_eq, gIL, gLI, gIR, gRI, gLR, gRL, Int.reduceLT, Int.reduceLE, Int.reduceEq, Int.reduceAdd, Int.reduceSub, Int.reduceMul, Int.reduceNeg, Int.reduceToNat, Nat.reduceEqDiff, reduceIte, if_neg, if_pos, gI_ne, gI_eq, if_neg hk]
    · intro k s' hk h
      simp (disch := omega) only [qbI_s, qbL_s, qbV_s, qbR_s, qbR_n, qbN_s, qbN_n, qbIX_s, qbIX_n, qbVX_s, qbVX_n, cond_true, cond_false, cond_dec, jadd, jsub, jmul, jneg, li_0, li_1, li_2, li_3, li_4, li_5, li_6, li_7, li_8, li_9, li_10, li_14, li_15, li_16, li_19, li_20, li_24, li_30, li_31, li_32, li_39, li_40, li_48, li_57, li_59, li_60, li_63, li_65, li_80, li_81, li_90, li_97, li_99, li_100, li_122, li_126, li_127, li_150, li_160, li_200, li_225, li_255, li_400, li_799, li_800, li_999, li_2400, li_3239, li_3240, li_1048575, li_1431655765, li_858993459, li_252645135, eqb_j, ltb_j, leb_j, inb_j, ix_j, ix_n, nz_b, nz_0, nz_1, eqb_b, bnot, vI_ne, vI_eq, gIL, gLI, gIR, gRI, gLR, gRL, Int.reduceLT, Int.reduceLE, Int.reduceEq, Int.reduceAdd, Int.reduceSub, Int.reduceMul, Int.reduceNeg, Int.reduceToNat, Nat.reduceEqDiff, reduceIte, if_neg, if_pos, gI_ne, gI_eq]
      by_cases e : k = t
      · rw [if_pos e, xr _ _ h, e]
        simp
      · rw [if_neg e, decide_eq_false (fun z => e z.1), Bool.xor_false]
    · intro k s' hk hk2 h
      simp (disch := omega) only [qbI_s, qbL_s, qbV_s, qbR_s, qbR_n, qbN_s, qbN_n, qbIX_s, qbIX_n, qbVX_s, qbVX_n, cond_true, cond_false, cond_dec, jadd, jsub, jmul, jneg, li_0, li_1, li_2, li_3, li_4, li_5, li_6, li_7, li_8, li_9, li_10, li_14, li_15, li_16, li_19, li_20, li_24, li_30, li_31, li_32, li_39, li_40, li_48, li_57, li_59, li_60, li_63, li_65, li_80, li_81, li_90, li_97, li_99, li_100, li_122, li_126, li_127, li_150, li_160, li_200, li_225, li_255, li_400, li_799, li_800, li_999, li_2400, li_3239, li_3240, li_1048575, li_1431655765, li_858993459, li_252645135, eqb_j, ltb_j, leb_j, inb_j, ix_j, ix_n, nz_b, nz_0, nz_1, eqb_b, bnot, vI_ne, vI_eq, gIL, gLI, gIR, gRI, gLR, gRL, Int.reduceLT, Int.reduceLE, Int.reduceEq, Int.reduceAdd, Int.reduceSub, Int.reduceMul, Int.reduceNeg, Int.reduceToNat, Nat.reduceEqDiff, reduceIte, if_neg, if_pos, gI_ne, gI_eq]
      by_cases e : k = i
      · rw [if_pos e, xr _ _ h, e, hi]
        simp
      · rw [if_neg e, decide_eq_false (fun z => e (by omega)), Bool.xor_false]
    · simp (disch := omega) only [qbI_s, qbL_s, qbV_s, qbR_s, qbR_n, qbN_s, qbN_n, qbIX_s, qbIX_n, qbVX_s, qbVX_n, cond_true, cond_false, cond_dec, jadd, jsub, jmul, jneg, li_0, li_1, li_2, li_3, li_4, li_5, li_6, li_7, li_8, li_9, li_10, li_14, li_15, li_16, li_19, li_20, li_24, li_30, li_31, li_32, li_39, li_40, li_48, li_57, li_59, li_60, li_63, li_65, li_80, li_81, li_90, li_97, li_99, li_100, li_122, li_126, li_127, li_150, li_160, li_200, li_225, li_255, li_400, li_799, li_800, li_999, li_2400, li_3239, li_3240, li_1048575, li_1431655765, li_858993459, li_252645135, eqb_j, ltb_j, leb_j, inb_j, ix_j, ix_n, nz_b, nz_0, nz_1, eqb_b, bnot, vI_ne, vI_eq, gIL, gLI, gIR, gRI, gLR, gRL, Int.reduceLT, Int.reduceLE, Int.reduceEq, Int.reduceAdd, Int.reduceSub, Int.reduceMul, Int.reduceNeg, Int.reduceToNat, Nat.reduceEqDiff, reduceIte, if_neg, if_pos, gI_ne, gI_eq]
    · exact Fr.wI (Fr.wI (Fr.wI (Fr.wI (Fr.wI (Fr.rf m) _ _ _ (by omega)) _ _ _ (by omega)) _ _ _ (by omega)) _ _ _ (by omega)) _ _ _ (by omega)
/-- what one ask more means for all that is told of the plan -/
theorem up_bits (d : Nat → Nat → Int) (hD : DOk d) (a s : Nat) (ha : (a : Int) < d 98 32) (hu : d 125 a = -1) (hN : NC d a s) : (∀ f s' : Nat, pd (laidF (upS d a s) f s') = (pd (laidF d f s') ^^ decide ((f : Int) = d 123 a ∧ s' = s))) ∧ (∀ t s' : Nat, pd (laidT (upS d a s) t s') = (pd (laidT d t s') ^^ decide ((t : Int) = d 124 a ∧ s' = s))) ∧ (∀ i s' : Nat, 0 < i → pd (laidI (upS d a s) i s') = (pd (laidI d i s') ^^ decide ((i : Int) = d 118 (d 123 a).toNat ∧ s' = s))) := by
  have gen : ∀ (P : Nat → Prop) (Q : Prop) [Decidable Q] (s' : Nat), (P a ↔ Q) → (∀ o : Nat, (o : Int) < d 98 32 → o ≠ a → d 125 o = s → P o → Q → False) → pd (∃ o : Nat, (o : Int) < d 98 32 ∧ P o ∧ (upS d a s) 125 o = s') = (pd (∃ o : Nat, (o : Int) < d 98 32 ∧ P o ∧ d 125 o = s') ^^ decide (Q ∧ s' = s)) := by
    intro P Q _ s' h1 h2
    by_cases hq : Q ∧ s' = s
    · rw [decide_eq_true hq, Bool.xor_true, pd_t ⟨a, ha, h1.mpr hq.1, by rw [upS_eq, if_pos rfl, hq.2]⟩]
      rw [pd_f]
      · rfl
      · rintro ⟨o, g1, g2, g3⟩
        rw [hq.2] at g3
        exact h2 o g1 (fun e => by rw [e, hu] at g3; omega) g3 g2 hq.1
    · rw [decide_eq_false hq, Bool.xor_false, Bool.eq_iff_iff, pd_iff, pd_iff]
      constructor
      · rintro ⟨o, g1, g2, g3⟩
        rw [upS_eq] at g3
        by_cases e : o = a
        · rw [if_pos e] at g3
          exact absurd ⟨h1.mp (by rw [← e]; exact g2), by omega⟩ hq
        · rw [if_neg e] at g3
          exact ⟨o, g1, g2, g3⟩
      · rintro ⟨o, g1, g2, g3⟩
        refine ⟨o, g1, g2, ?_⟩
        rw [upS_eq, if_neg]
        · exact g3
        · intro e
          rw [e, hu] at g3
          omega
  refine ⟨fun f s' => ?_, fun t s' => ?_, fun i s' hi => ?_⟩
  · have := gen (fun o => d 123 o = f) ((f : Int) = d 123 a) s' ⟨fun h => h.symm, fun h => h.symm⟩ (fun o g1 g2 g3 g4 g5 => (hN o g1 g2 g3).1 (by omega))
    exact this
  · have := gen (fun o => d 124 o = t) ((t : Int) = d 124 a) s' ⟨fun h => h.symm, fun h => h.symm⟩ (fun o g1 g2 g3 g4 g5 => (hN o g1 g2 g3).2.1 (by omega))
    exact this
  · have := gen (fun o => d 118 (d 123 o).toNat = i) ((i : Int) = d 118 (d 123 a).toNat) s' ⟨fun h => h.symm, fun h => h.symm⟩ (fun o g1 g2 g3 g4 g5 => (hN o g1 g2 g3).2.2 ⟨by omega, by omega⟩)
    exact this
theorem up_cnt (d : Nat → Nat → Int) (a s : Nat) (ha : (a : Int) < d 98 32) (hu : d 125 a = -1) : fb_ct (fun k => isLd (upS d a s) k) (d 98 32).toNat = fb_ct (fun k => isLd d k) (d 98 32).toNat + 1 ∧ ((fb_ct (fun k => isLd (upS d a s) k && decide (d 126 k = 1)) (d 98 32).toNat : Nat) : Int) = fb_ct (fun k => isLd d k && decide (d 126 k = 1)) (d 98 32).toNat + (if d 126 a = 1 then 1 else 0) ∧ fb_si (fun k => ptV (upS d a s) k) (d 98 32).toNat = fb_si (fun k => ptV d k) (d 98 32).toNat + ptAt d a s := by
  have ha' : a < (d 98 32).toNat := by omega
  have l0 : isLd d a = false := decide_eq_false (fun z => z hu)
  refine ⟨?_, ?_, ?_⟩
  · have e : (fun k => isLd (upS d a s) k) = (fun k => if k = a then true else isLd d k) := funext fun k => by
      unfold isLd
      rw [upS_eq]
      by_cases h : k = a
      · rw [if_pos h, if_pos h]; exact decide_eq_true (by omega)
      · rw [if_neg h, if_neg h]
    have := fb_ct_upd (fun k => isLd d k) true ha'
    rw [e]
    rw [l0] at this
    simpa using this
  · have e : (fun k => isLd (upS d a s) k && decide (d 126 k = 1)) = (fun k => if k = a then decide (d 126 a = 1) else (isLd d k && decide (d 126 k = 1))) := funext fun k => by
      unfold isLd
      rw [upS_eq]
      by_cases h : k = a
      · rw [if_pos h, if_pos h, h, decide_eq_true (by omega), Bool.true_and]
      · rw [if_neg h, if_neg h]
    have h9 := fb_ct_upd (fun k => isLd d k && decide (d 126 k = 1)) (decide (d 126 a = 1)) ha'
    rw [e]
    simp only [l0, Bool.false_and, Bool.false_eq_true, if_false, Nat.add_zero, decide_eq_true_eq] at h9
    by_cases g : d 126 a = 1
    · rw [if_pos g] at h9 ⊢
      omega
    · rw [if_neg g] at h9 ⊢
      omega
  · have e : (fun k => ptV (upS d a s) k) = (fun k => if k = a then ptAt d a s else ptV d k) := funext fun k => by
      unfold ptV ptAt
      simp (disch := omega) only [upS_ne, upS_eq]
      by_cases h : k = a
      · simp only [if_pos h, h, if_true]
        by_cases g : d 119 (d 123 a).toNat ≤ s ∧ (s : Int) ≤ d 120 (d 123 a).toNat
        · rw [if_pos g, if_pos ⟨by omega, g⟩]
        · rw [if_neg g, if_neg (fun z => g z.2)]
      · simp only [if_neg h]
    rw [e, fb_si_upd _ _ ha']
    have : ptV d a = 0 := by
      unfold ptV
      rw [if_neg (fun z => z.1 hu)]
    rw [this]
    show fb_si (fun k => ptV d k) _ - 0 + ptAt d a s = _
    omega
theorem ptAt_r (d : Nat → Nat → Int) (hD : DOk d) (a s : Nat) (ha : (a : Int) < d 98 32) : 0 ≤ ptAt d a s ∧ ptAt d a s ≤ 10 := by
  obtain ⟨f1, -⟩ := hD.2.2.2.2.2.2 a ha
  have := (hD.2.2.1 (d 123 a).toNat (by omega)).2.2.2
  unfold ptAt
  split <;> omega
theorem ptV_r (d : Nat → Nat → Int) (hD : DOk d) : 0 ≤ fb_si (fun k => ptV d k) (d 98 32).toNat ∧ fb_si (fun k => ptV d k) (d 98 32).toNat ≤ 400 := by
  have key : ∀ n, n ≤ (d 98 32).toNat → 0 ≤ fb_si (fun k => ptV d k) n ∧ fb_si (fun k => ptV d k) n ≤ 10 * n := by
    intro n
    induction n with
    | zero => intro h; simp [fb_si]
    | succ n ih =>
      intro h
      have h1 := ih (by omega)
      obtain ⟨f1, -⟩ := hD.2.2.2.2.2.2 n (by omega)
      have h2 := (hD.2.2.1 (d 123 n).toNat (by omega)).2.2.2
      have h3 : 0 ≤ ptV d n ∧ ptV d n ≤ 10 := by
        unfold ptV
        split <;> omega
      rw [fb_si_succ]
      omega
  have h1 := key _ (Nat.le_refl _)
  have := hD.2.2.2.2.2.1
  omega
