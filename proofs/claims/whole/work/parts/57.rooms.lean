/-! walks measured; rooms -/
noncomputable def wkC (d : Nat → Nat → Int) (t u : Nat) : Int := d 5 1 * ((d 49 t - d 49 u).natAbs : Int) + (if d 48 t = d 48 u ∧ d 49 t = d 49 u then 0 else d 5 2)
def mwB (m : qM) : Prop := (1 ≤ vI m 5 0 ∧ vI m 5 0 ≤ 30) ∧ (0 ≤ vI m 5 1 ∧ vI m 5 1 ≤ 20) ∧ (0 ≤ vI m 5 2 ∧ vI m 5 2 ≤ 20) ∧ ∀ t, t < 10 → 0 ≤ vI m 48 t ∧ vI m 48 t ≤ 9 ∧ 0 ≤ vI m 49 t ∧ vI m 49 t ≤ 9
theorem wkC_r (m : qM) (h : mwB m) (t u : Nat) (ht : t < 10) (hu : u < 10) : 0 ≤ wkC (vI m) t u ∧ wkC (vI m) t u ≤ 200 := by
  obtain ⟨r1, r2, r3, r4⟩ := h
  have h1 := (r4 t ht).2.2
  have h2 := (r4 u hu).2.2
  have h3 : ((vI m 49 t - vI m 49 u).natAbs : Int) ≤ 9 := by omega
  have h4 : vI m 5 1 * ((vI m 49 t - vI m 49 u).natAbs : Int) ≤ 20 * 9 := Int.mul_le_mul r2.2 h3 (by omega) (by omega)
  have h5 : 0 ≤ vI m 5 1 * ((vI m 49 t - vI m 49 u).natAbs : Int) := Int.mul_nonneg r2.1 (by omega)
  unfold wkC
  split <;> omega
theorem told5_s (m : qM) (k : Nat) (hk : k < 6) : fX7_told (Zi k) m = some (Zi (vI m 5 k), m) := by
  rw [fX7_told_d]
  simp (disch := omega) only [fX7_told_0, fX7_told_11, qbI_s, qbL_s, qbV_s, qbR_s, qbR_n, qbN_s, qbN_n, qbIX_s, qbIX_n, qbVX_s, qbVX_n, cond_true, cond_false, cond_dec, jadd, jsub, jmul, jneg, li_0, li_1, li_2, li_3, li_4, li_5, li_6, li_7, li_8, li_9, li_10, li_14, li_15, li_16, li_19, li_20, li_24, li_30, li_31, li_32, li_39, li_40, li_48, li_57, li_59, li_60, li_63, li_65, li_80, li_81, li_90, li_97, li_99, li_100, li_122, li_126, li_127, li_150, li_160, li_200, li_225, li_255, li_400, li_799, li_800, li_999, li_2400, li_3239, li_3240, li_1048575, li_1431655765, li_858993459, li_252645135, eqb_j, ltb_j, leb_j, inb_j, ix_j, ix_n, nz_b, nz_0, nz_1, eqb_b, bnot, vI_ne, vI_eq, gIL, gLI, gIR, gRI, gLR, gRL, Int.reduceLT, Int.reduceLE, Int.reduceEq, Int.reduceAdd, Int.reduceSub, Int.reduceMul, Int.reduceNeg, Int.reduceToNat, Nat.reduceEqDiff, reduceIte, if_neg, if_pos, gI_ne, gIv 5, within_s]
def mwI (m : qM) (n : Nat) (w : qM) : Prop := Fr (fun c _ => c = 56 ∨ c = 57) m w ∧ ∀ i, i < n → vI w 56 i = wkC (vI m) (i / 10) (i % 10) ∧ vI w 57 i = (wkC (vI m) (i / 10) (i % 10) + vI m 5 0 - 1) / vI m 5 0
theorem mw_step (m : qM) (hB : mwB m) (w : qM) (t u : Nat) (ht : t < 10) (hu : u < 10) (h : mwI m (10 * t + u) w) (v : Int) (hv : v = wkC (vI m) t u) : mwI m (10 * t + u + 1) (sI (sI w 56 (10 * t + u) (Zi v)) 57 (10 * t + u) (Zi ((v + vI m 5 0 - 1) / vI m 5 0))) := by
  obtain ⟨f1, h1⟩ := h
  have hr := wkC_r m hB t u ht hu
  have hd : 0 ≤ (v + vI m 5 0 - 1) / vI m 5 0 ∧ (v + vI m 5 0 - 1) / vI m 5 0 ≤ v + vI m 5 0 - 1 := ⟨Int.ediv_nonneg (by have := hB.1; omega) (by have := hB.1; omega), Int.ediv_le_self _ (by have := hB.1; omega)⟩
  have h30 := hB.1
  refine ⟨Fr.wI (Fr.wI f1 56 _ _ (Or.inl rfl)) 57 _ _ (Or.inr rfl), fun i hi => ?_⟩
  simp (disch := omega) only [qbI_s, qbL_s, qbV_s, qbR_s, qbR_n, qbN_s, qbN_n, qbIX_s, qbIX_n, qbVX_s, qbVX_n, cond_true, cond_false, cond_dec, jadd, jsub, jmul, jneg, li_0, li_1, li_2, li_3, li_4, li_5, li_6, li_7, li_8, li_9, li_10, li_14, li_15, li_16, li_19, li_20, li_24, li_30, li_31, li_32, li_39, li_40, li_48, li_57, li_59, li_60, li_63, li_65, li_80, li_81, li_90, li_97, li_99, li_100, li_122, li_126, li_127, li_150, li_160, li_200, li_225, li_255, li_400, li_799, li_800, li_999, li_2400, li_3239, li_3240, li_1048575, li_1431655765, li_858993459, li_252645135, eqb_j, ltb_j, leb_j, inb_j, ix_j, ix_n, nz_b, nz_0, nz_1, eqb_b, bnot, vI_ne, vI_eq, gIL, gLI, gIR, gRI, gLR, gRL, Int.reduceLT, Int.reduceLE, Int.reduceEq, Int.reduceAdd, Int.reduceSub, Int.reduceMul, Int.reduceNeg, Int.reduceToNat, Nat.reduceEqDiff, reduceIte, if_neg, if_pos, gI_ne]
  by_cases e : i = 10 * t + u
  · rw [if_pos e, if_pos e, e, show (10 * t + u) / 10 = t by omega, show (10 * t + u) % 10 = u by omega, hv]
    exact ⟨rfl, rfl⟩
  · rw [if_neg e, if_neg e]
    exact h1 i (by omega)
theorem mw_in (m : qM) (hB : mwB m) (t : Nat) (ht : t < 10) (k6 : Int32 → Int32 → qM → Option (Unit × qM)) (Q : Unit → qM → Prop) (hk : ∀ w', mwI m (10 * t + 10) w' → wp (k6 (Zi (vI m 5 0)) (Zi (t + 1 : Nat)) w') Q) : ∀ (r u f : Nat) (w : qM), u + r = 10 → r < f → mwI m (10 * t + u) w → wp (fX3_measureWalks_11 k6 f (Zi (vI m 5 0)) (Zi t) (Zi u) w) Q := by
  intro r
  induction r with
  | zero =>
    intro u f w hu hf hI
    obtain ⟨f, rfl⟩ : ∃ f', f = f' + 1 := ⟨f - 1, by omega⟩
    have : u = 10 := by omega
    subst this
    simp (disch := omega) only [fX3_measureWalks_11, qbI_s, qbL_s, qbV_s, qbR_s, qbR_n, qbN_s, qbN_n, qbIX_s, qbIX_n, qbVX_s, qbVX_n, cond_true, cond_false, cond_dec, jadd, jsub, jmul, jneg, li_0, li_1, li_2, li_3, li_4, li_5, li_6, li_7, li_8, li_9, li_10, li_14, li_15, li_16, li_19, li_20, li_24, li_30, li_31, li_32, li_39, li_40, li_48, li_57, li_59, li_60, li_63, li_65, li_80, li_81, li_90, li_97, li_99, li_100, li_122, li_126, li_127, li_150, li_160, li_200, li_225, li_255, li_400, li_799, li_800, li_999, li_2400, li_3239, li_3240, li_1048575, li_1431655765, li_858993459, li_252645135, eqb_j, ltb_j, leb_j, inb_j, ix_j, ix_n, nz_b, nz_0, nz_1, eqb_b, bnot, vI_ne, vI_eq, gIL, gLI, gIR, gRI, gLR, gRL, Int.reduceLT, Int.reduceLE, Int.reduceEq, Int.reduceAdd, Int.reduceSub, Int.reduceMul, Int.reduceNeg, Int.reduceToNat, Nat.reduceEqDiff, reduceIte, if_neg, if_pos, gI_ne]
    exact hk w hI
  | succ r ih =>
    intro u f w hu hf hI
    obtain ⟨f, rfl⟩ : ∃ f', f = f' + 1 := ⟨f - 1, by omega⟩
    have v5 : ∀ k, vI w 5 k = vI m 5 k := fun k => hI.1.v 5 k (by omega)
    have v48 : ∀ k, vI w 48 k = vI m 48 k := fun k => hI.1.v 48 k (by omega)
    have v49 : ∀ k, vI w 49 k = vI m 49 k := fun k => hI.1.v 49 k (by omega)
    have b1 := hB.2.2.2 t ht
    have b2 := hB.2.2.2 u (by omega)
    have b3 := hB.1
    have b4 := hB.2.1
    have b5 := hB.2.2.1
    have hr := wkC_r m hB t u ht (by omega)
    have i1 : ((t : Int) * 10 + u).toNat = 10 * t + u := by omega
    have t1 := told5_s w 1 (by omega)
    have t2 := told5_s w 2 (by omega)
    rw [v5] at t1 t2
    have go : ∀ v : Int, v = wkC (vI m) t u → wp (fX3_measureWalks_11 k6 f (Zi (vI m 5 0)) (Zi t) (Zi ((u : Int) + 1)) (sI (sI w 56 (10 * t + u) (Zi v)) 57 (10 * t + u) (Zi ((v + vI m 5 0 - 1) / vI m 5 0)))) Q := fun v hv =>
      ih (u + 1) f _ (by omega) (by omega) (mw_step m hB w t u ht (by omega) hI v hv)
    have m1 : 0 ≤ vI m 5 1 * ((vI m 49 t - vI m 49 u).natAbs : Int) := Int.mul_nonneg b4.1 (by omega)
    simp only [wkC] at go hr
    have t1' : fX7_told (Zi 1) w = _ := t1
    have t2' : fX7_told (Zi 2) w = _ := t2
    by_cases g1 : vI m 48 t = vI m 48 u
    · by_cases g2 : vI m 49 t = vI m 49 u
      · have go' := go _ (by rw [if_pos ⟨g1, g2⟩])
        rw [if_pos ⟨g1, g2⟩] at hr
        simp (disch := omega) only [fX3_measureWalks_11, fX3_measureWalks_35, fX3_measureWalks_32, fX3_measureWalks_61, qbI_s, qbL_s, qbV_s, qbR_s, qbR_n, qbN_s, qbN_n, qbIX_s, qbIX_n, qbVX_s, qbVX_n, cond_true, cond_false, cond_dec, jadd, jsub, jmul, jneg, li_0, li_1, li_2, li_3, li_4, li_5, li_6, li_7, li_8, li_9, li_10, li_14, li_15, li_16, li_19, li_20, li_24, li_30, li_31, li_32, li_39, li_40, li_48, li_57, li_59, li_60, li_63, li_65, li_80, li_81, li_90, li_97, li_99, li_100, li_122, li_126, li_127, li_150, li_160, li_200, li_225, li_255, li_400, li_799, li_800, li_999, li_2400, li_3239, li_3240, li_1048575, li_1431655765, li_858993459, li_252645135, eqb_j, ltb_j, leb_j, inb_j, ix_j, ix_n, nz_b, nz_0, nz_1, eqb_b, bnot, vI_ne, vI_eq, gIL, gLI, gIR, gRI, gLR, gRL, Int.reduceLT, Int.reduceLE, Int.reduceEq, Int.reduceAdd, Int.reduceSub, Int.reduceMul, Int.reduceNeg, Int.reduceToNat, Nat.reduceEqDiff, reduceIte, if_neg, if_pos, gI_ne, gIv 48, gIv 49, v48, v49, abs_s, t1', t2', jdiv, i1]
        exact go'
      · have go' := go _ (by rw [if_neg (fun z => g2 z.2)])
        rw [if_neg (fun z => g2 z.2)] at hr
        simp (disch := omega) only [fX3_measureWalks_11, fX3_measureWalks_35, fX3_measureWalks_32, fX3_measureWalks_61, qbI_s, qbL_s, qbV_s, qbR_s, qbR_n, qbN_s, qbN_n, qbIX_s, qbIX_n, qbVX_s, qbVX_n, cond_true, cond_false, cond_dec, jadd, jsub, jmul, jneg, li_0, li_1, li_2, li_3, li_4, li_5, li_6, li_7, li_8, li_9, li_10, li_14, li_15, li_16, li_19, li_20, li_24, li_30, li_31, li_32, li_39, li_40, li_48, li_57, li_59, li_60, li_63, li_65, li_80, li_81, li_90, li_97, li_99, li_100, li_122, li_126, li_127, li_150, li_160, li_200, li_225, li_255, li_400, li_799, li_800, li_999, li_2400, li_3239, li_3240, li_1048575, li_1431655765, li_858993459, li_252645135, eqb_j, ltb_j, leb_j, inb_j, ix_j, ix_n, nz_b, nz_0, nz_1, eqb_b, bnot, vI_ne, vI_eq, gIL, gLI, gIR, gRI, gLR, gRL, Int.reduceLT, Int.reduceLE, Int.reduceEq, Int.reduceAdd, Int.reduceSub, Int.reduceMul, Int.reduceNeg, Int.reduceToNat, Nat.reduceEqDiff, reduceIte, if_neg, if_pos, gI_ne, gIv 48, gIv 49, v48, v49, abs_s, t1', t2', jdiv, i1]
        exact go'
    · have go' := go _ (by rw [if_neg (fun z => g1 z.1)])
      rw [if_neg (fun z => g1 z.1)] at hr
      simp (disch := omega) only [fX3_measureWalks_11, fX3_measureWalks_35, fX3_measureWalks_32, fX3_measureWalks_61, qbI_s, qbL_s, qbV_s, qbR_s, qbR_n, qbN_s, qbN_n, qbIX_s, qbIX_n, qbVX_s, qbVX_n, cond_true, cond_false, cond_dec, jadd, jsub, jmul, jneg, li_0, li_1, li_2, li_3, li_4, li_5, li_6, li_7, li_8, li_9, li_10, li_14, li_15, li_16, li_19, li_20, li_24, li_30, li_31, li_32, li_39, li_40, li_48, li_57, li_59, li_60, li_63, li_65, li_80, li_81, li_90, li_97, li_99, li_100, li_122, li_126, li_127, li_150, li_160, li_200, li_225, li_255, li_400, li_799, li_800, li_999, li_2400, li_3239, li_3240, li_1048575, li_1431655765, li_858993459, li_252645135, eqb_j, ltb_j, leb_j, inb_j, ix_j, ix_n, nz_b, nz_0, nz_1, eqb_b, bnot, vI_ne, vI_eq, gIL, gLI, gIR, gRI, gLR, gRL, Int.reduceLT, Int.reduceLE, Int.reduceEq, Int.reduceAdd, Int.reduceSub, Int.reduceMul, Int.reduceNeg, Int.reduceToNat, Nat.reduceEqDiff, reduceIte, if_neg, if_pos, gI_ne, gIv 48, gIv 49, v48, v49, abs_s, t1', t2', jdiv, i1]
      exact go'
theorem measure_s (m : qM) (hB : mwB m) : wp (fX3_measureWalks m) (fun _ w => mwI m 100 w) := by
  have key : ∀ (r t f : Nat) (w : qM), t + r = 10 → r < f → mwI m (10 * t) w → wp (fX3_measureWalks_6 f (Zi (vI m 5 0)) (Zi t) w) (fun _ w => mwI m 100 w) := by
    intro r
    induction r with
    | zero =>
      intro t f w hu hf hI
      obtain ⟨f, rfl⟩ : ∃ f', f = f' + 1 := ⟨f - 1, by omega⟩
      have : t = 10 := by omega
      subst this
      simp (disch := omega) only [fX3_measureWalks_6, qbI_s, qbL_s, qbV_s, qbR_s, qbR_n, qbN_s, qbN_n, qbIX_s, qbIX_n, qbVX_s, qbVX_n, cond_true, cond_false, cond_dec, jadd, jsub, jmul, jneg, li_0, li_1, li_2, li_3, li_4, li_5, li_6, li_7, li_8, li_9, li_10, li_14, li_15, li_16, li_19, li_20, li_24, li_30, li_31, li_32, li_39, li_40, li_48, li_57, li_59, li_60, li_63, li_65, li_80, li_81, li_90, li_97, li_99, li_100, li_122, li_126, li_127, li_150, li_160, li_200, li_225, li_255, li_400, li_799, li_800, li_999, li_2400, li_3239, li_3240, li_1048575, li_1431655765, li_858993459, li_252645135, eqb_j, ltb_j, leb_j, inb_j, ix_j, ix_n, nz_b, nz_0, nz_1, eqb_b, bnot, vI_ne, vI_eq, gIL, gLI, gIR, gRI, gLR, gRL, Int.reduceLT, Int.reduceLE, Int.reduceEq, Int.reduceAdd, Int.reduceSub, Int.reduceMul, Int.reduceNeg, Int.reduceToNat, Nat.reduceEqDiff, reduceIte, if_neg, if_pos, gI_ne]
      exact wp_s hI
    | succ r ih =>
      intro t f w hu hf hI
      obtain ⟨f, rfl⟩ : ∃ f', f = f' + 1 := ⟨f - 1, by omega⟩
      have h2 := mw_in m hB t (by omega) (fX3_measureWalks_6 f) (fun _ w => mwI m 100 w) (fun w' hI' => ih (t + 1) f w' (by omega) (by omega) hI') 10 0 FU w (by omega) (by rw [FU_d]; omega) hI
      simp (disch := omega) only [fX3_measureWalks_6, qbI_s, qbL_s, qbV_s, qbR_s, qbR_n, qbN_s, qbN_n, qbIX_s, qbIX_n, qbVX_s, qbVX_n, cond_true, cond_false, cond_dec, jadd, jsub, jmul, jneg, li_0, li_1, li_2, li_3, li_4, li_5, li_6, li_7, li_8, li_9, li_10, li_14, li_15, li_16, li_19, li_20, li_24, li_30, li_31, li_32, li_39, li_40, li_48, li_57, li_59, li_60, li_63, li_65, li_80, li_81, li_90, li_97, li_99, li_100, li_122, li_126, li_127, li_150, li_160, li_200, li_225, li_255, li_400, li_799, li_800, li_999, li_2400, li_3239, li_3240, li_1048575, li_1431655765, li_858993459, li_252645135, eqb_j, ltb_j, leb_j, inb_j, ix_j, ix_n, nz_b, nz_0, nz_1, eqb_b, bnot, vI_ne, vI_eq, gIL, gLI, gIR, gRI, gLR, gRL, Int.reduceLT, Int.reduceLE, Int.reduceEq, Int.reduceAdd, Int.reduceSub, Int.reduceMul, Int.reduceNeg, Int.reduceToNat, Nat.reduceEqDiff, reduceIte, if_neg, if_pos, gI_ne]
      exact h2
  have b3 := hB.1
  have h2 : fX7_slotMinutes m = some (Zi (vI m 5 0), m) := by
    rw [fX7_slotMinutes_d]
    simp (disch := omega) only [fX7_slotMinutes_0, fX7_slotMinutes_11, qbI_s, qbL_s, qbV_s, qbR_s, qbR_n, qbN_s, qbN_n, qbIX_s, qbIX_n, qbVX_s, qbVX_n, cond_true, cond_false, cond_dec, jadd, jsub, jmul, jneg, li_0, li_1, li_2, li_3, li_4, li_5, li_6, li_7, li_8, li_9, li_10, li_14, li_15, li_16, li_19, li_20, li_24, li_30, li_31, li_32, li_39, li_40, li_48, li_57, li_59, li_60, li_63, li_65, li_80, li_81, li_90, li_97, li_99, li_100, li_122, li_126, li_127, li_150, li_160, li_200, li_225, li_255, li_400, li_799, li_800, li_999, li_2400, li_3239, li_3240, li_1048575, li_1431655765, li_858993459, li_252645135, eqb_j, ltb_j, leb_j, inb_j, ix_j, ix_n, nz_b, nz_0, nz_1, eqb_b, bnot, vI_ne, vI_eq, gIL, gLI, gIR, gRI, gLR, gRL, Int.reduceLT, Int.reduceLE, Int.reduceEq, Int.reduceAdd, Int.reduceSub, Int.reduceMul, Int.reduceNeg, Int.reduceToNat, Nat.reduceEqDiff, reduceIte, if_neg, if_pos, gI_ne, gIv 5]
  rw [fX3_measureWalks_d]
  simp only [fX3_measureWalks_0, h2, qbI_s]
  exact key 10 0 FU m (by omega) (by rw [FU_d]; omega) ⟨Fr.rf m, fun i hi => by omega⟩
theorem wkC_V (m : qM) (hRu : RRule m) (hPt : RPeoT m) (t u : Nat) (ht : t < 10) (hu : u < 10) : wkC (vI m) t u = wkV (vI m) t u := by
  unfold wkC wkV
  rw [hRu.1 1 (by omega), hRu.1 2 (by omega), (hPt t ht).1.1, (hPt u hu).1.1, (hPt t ht).2.1.1, (hPt u hu).2.1.1]
theorem mwI_W (m w : qM) (hRu : RRule m) (hPt : RPeoT m) (h : mwI m 100 w) : RWalk w := by
  intro t u ht hu
  obtain ⟨f1, h1⟩ := h
  obtain ⟨k1, k2⟩ := h1 (10 * t + u) (by omega)
  rw [show (10 * t + u) / 10 = t by omega, show (10 * t + u) % 10 = u by omega, wkC_V m hRu hPt t u ht hu] at k1 k2
  have e1 : wkV (vI w) t u = wkV (vI m) t u := by
    unfold wkV
    simp (disch := omega) only [f1.v]
  rw [e1, f1.v 99 0 (by omega), k1, k2, hRu.1 0 (by omega)]
  exact ⟨rfl, rfl⟩
theorem op_room (m : qM) (hR : R0 m) (a b c : Int) (ha : -2147483648 ≤ a ∧ a < 2147483648) (hb : -2147483648 ≤ b ∧ b < 2147483648) (hc : -2147483648 ≤ c ∧ c < 2147483648) : QOp m (fX11_room (Zi a) (Zi b) (Zi c)) (fX13_room (Zi a) (Zi b) (Zi c)) := by
  have hR' := hR
  obtain ⟨⟨hT, hRd, hRu, hFo, hHa⟩, ⟨hPt, hPf, hAp, hWk⟩, ⟨hAs, hPa, hCl, hDi, hBi, hCn⟩, ⟨hTe, hBe, hNo, hPo⟩⟩ := hR'
  by_cases h1 : 0 ≤ a ∧ a ≤ 9
  · by_cases h2 : 0 ≤ b ∧ b ≤ 9
    · by_cases h3 : 0 ≤ c ∧ c ≤ 9
      · cases hx : fixB m
        · have hu := unfixed hx hBe
          obtain ⟨t, rfl⟩ : ∃ t : Nat, a = t := ⟨a.toNat, by omega⟩
          have hB : mwB (sI (sI m 48 t (Zi b)) 49 t (Zi c)) := by
            obtain ⟨r0, r1, r2, r3, -⟩ := hRu
            have k0 := r0 0 (by omega)
            have k1 := r0 1 (by omega)
            have k2 := r0 2 (by omega)
            simp (disch := omega) only [mwB, qbI_s, qbL_s, qbV_s, qbR_s, qbR_n, qbN_s, qbN_n, qbIX_s, qbIX_n, qbVX_s, qbVX_n, cond_true, cond_false, cond_dec, jadd, jsub, jmul, jneg, li_0, li_1, li_2, li_3, li_4, li_5, li_6, li_7, li_8, li_9, li_10, li_14, li_15, li_16, li_19, li_20, li_24, li_30, li_31, li_32, li_39, li_40, li_48, li_57, li_59, li_60, li_63, li_65, li_80, li_81, li_90, li_97, li_99, li_100, li_122, li_126, li_127, li_150, li_160, li_200, li_225, li_255, li_400, li_799, li_800, li_999, li_2400, li_3239, li_3240, li_1048575, li_1431655765, li_858993459, li_252645135, eqb_j, ltb_j, leb_j, inb_j, ix_j, ix_n, nz_b, nz_0, nz_1, eqb_b, bnot, vI_ne, vI_eq, gIL, gLI, gIR, gRI, gLR, gRL, Int.reduceLT, Int.reduceLE, Int.reduceEq, Int.reduceAdd, Int.reduceSub, Int.reduceMul, Int.reduceNeg, Int.reduceToNat, Nat.reduceEqDiff, reduceIte, if_neg, if_pos, gI_ne, k0, k1, k2]
            refine ⟨r1, r2, r3, fun s hs => ?_⟩
            have k3 := hPt s hs
            by_cases e : s = t
            · rw [if_pos e, if_pos e]; omega
            · rw [if_neg e, if_neg e]; omega
          obtain ⟨u, w, g1, f1, f2⟩ := measure_s _ hB
          have q : ∀ c' k, ¬ ((c' = 48 ∨ c' = 49 ∨ c' = 112 ∨ c' = 113) ∧ k = t ∨ c' = 56 ∨ c' = 57) → gI (sI (sI w 112 t (Zi b)) 113 t (Zi c)) c' k = gI m c' k := fun c' k hc => by
            rw [gI_sI, gI_sI, if_neg (by omega), if_neg (by omega), f1.1 c' k (by omega), gI_sI, gI_sI, if_neg (by omega), if_neg (by omega)]
          have g : gR (sI (sI w 112 t (Zi b)) 113 t (Zi c)) = gR m := by
            simp only [gR_sI]
            rw [f1.2.2]
            simp only [gR_sI]
          have hP : RPeoT (sI (sI w 112 t (Zi b)) 113 t (Zi c)) := by
            intro s hs
            obtain ⟨k1, k2, k3, k4⟩ := hPt s hs
            have e48 := f1.v 48 s (by omega)
            have e49 := f1.v 49 s (by omega)
            have e112 := f1.v 112 s (by omega)
            have e113 := f1.v 113 s (by omega)
            have e114 := f1.v 114 s (by omega)
            have e115 := f1.v 115 s (by omega)
            have e50 := f1.1 50 s (by omega)
            simp (disch := omega) only [qbI_s, qbL_s, qbV_s, qbR_s, qbR_n, qbN_s, qbN_n, qbIX_s, qbIX_n, qbVX_s, qbVX_n, cond_true, cond_false, cond_dec, jadd, jsub, jmul, jneg, li_0, li_1, li_2, li_3, li_4, li_5, li_6, li_7, li_8, li_9, li_10, li_14, li_15, li_16, li_19, li_20, li_24, li_30, li_31, li_32, li_39, li_40, li_48, li_57, li_59, li_60, li_63, li_65, li_80, li_81, li_90, li_97, li_99, li_100, li_122, li_126, li_127, li_150, li_160, li_200, li_225, li_255, li_400, li_799, li_800, li_999, li_2400, li_3239, li_3240, li_1048575, li_1431655765, li_858993459, li_252645135, eqb_j, ltb_j, leb_j, inb_j, ix_j, ix_n, nz_b, nz_0, nz_1, eqb_b, bnot, vI_ne, vI_eq, gIL, gLI, gIR, gRI, gLR, gRL, Int.reduceLT, Int.reduceLE, Int.reduceEq, Int.reduceAdd, Int.reduceSub, Int.reduceMul, Int.reduceNeg, Int.reduceToNat, Nat.reduceEqDiff, reduceIte, if_neg, if_pos, gI_ne] at e48 e49 e112 e113 e114 e115 e50
            simp (disch := omega) only [qbI_s, qbL_s, qbV_s, qbR_s, qbR_n, qbN_s, qbN_n, qbIX_s, qbIX_n, qbVX_s, qbVX_n, cond_true, cond_false, cond_dec, jadd, jsub, jmul, jneg, li_0, li_1, li_2, li_3, li_4, li_5, li_6, li_7, li_8, li_9, li_10, li_14, li_15, li_16, li_19, li_20, li_24, li_30, li_31, li_32, li_39, li_40, li_48, li_57, li_59, li_60, li_63, li_65, li_80, li_81, li_90, li_97, li_99, li_100, li_122, li_126, li_127, li_150, li_160, li_200, li_225, li_255, li_400, li_799, li_800, li_999, li_2400, li_3239, li_3240, li_1048575, li_1431655765, li_858993459, li_252645135, eqb_j, ltb_j, leb_j, inb_j, ix_j, ix_n, nz_b, nz_0, nz_1, eqb_b, bnot, vI_ne, vI_eq, gIL, gLI, gIR, gRI, gLR, gRL, Int.reduceLT, Int.reduceLE, Int.reduceEq, Int.reduceAdd, Int.reduceSub, Int.reduceMul, Int.reduceNeg, Int.reduceToNat, Nat.reduceEqDiff, reduceIte, if_neg, if_pos, gI_ne, e48, e49, e112, e113, e114, e115, e50]
            by_cases e : s = t
            · simp only [if_pos e]
              exact ⟨by first | omega | exact ⟨rfl, by omega, by omega⟩ | exact ⟨trivial, by omega, by omega⟩, by first | omega | exact ⟨rfl, by omega, by omega⟩ | exact ⟨trivial, by omega, by omega⟩, k3, k4⟩
            · simp only [if_neg e]
              exact ⟨k1, k2, k3, k4⟩
          have hRu' : RRule (sI (sI w 112 t (Zi b)) 113 t (Zi c)) := hRu.mono fun c k hc => q c k (by omega)
          have hW : RWalk (sI (sI w 112 t (Zi b)) 113 t (Zi c)) := by
            refine mwI_W (sI (sI w 112 t (Zi b)) 113 t (Zi c)) _ hRu' hP ⟨Fr.rf _, fun i hi => ?_⟩
            obtain ⟨k1, k2⟩ := f2 i hi
            have ew : ∀ x y, wkC (vI (sI (sI w 112 t (Zi b)) 113 t (Zi c))) x y = wkC (vI (sI (sI m 48 t (Zi b)) 49 t (Zi c))) x y := fun x y => by
              unfold wkC
              simp (disch := omega) only [vI_ne (c := 113), vI_ne (c := 112), f1.v]
            rw [ew, ← f1.v 5 0 (by omega)] at *
            simp (disch := omega) only [vI_ne (c := 113), vI_ne (c := 112)]
            exact ⟨k1, k2⟩
          refine QOp.ok (x := Zi 1) (y := Zi 1) (m1 := w) (m2 := sI (sI w 112 t (Zi b)) 113 t (Zi c)) ?_ ?_ rfl (⟨⟨hT.mono (fun c k hc => q c k (by omega)), hRd.mono (fun c k hc => q c k (by omega)), hRu.mono (fun c k hc => q c k (by omega)), hFo.mono (fun c k hc => q c k (by omega)), hHa.mono (fun c k hc => q c k (by omega))⟩, ⟨(hP), hPf.mono (fun c k hc => q c k (by omega)), hAp.mono (fun c k hc => q c k (by omega)), (hW)⟩, ⟨hAs.mono (fun c k hc => q c k (by omega)), hPa.mono (fun c k hc => q c k (by omega)), hCl.mono (fun c k hc => q c k (by omega)), hDi.mono (fun c k hc => q c k (by omega)), hBi.mono (fun c k hc => q c k (by omega)), hCn.mono (fun c k hc => q c k (by omega))⟩, ⟨hTe.mono (fun c k hc => q c k (by omega)), hBe.mono (fun c k hc => q c k (by omega)), hNo.mono (fun c k hc => q c k (by omega)), hPo.mono (fun c k hc => q c k (by omega)) g⟩⟩) (Or.inl ?_)
          · rw [fX11_room_d]
            simp (disch := omega) only [fX11_room_0, fX11_room_13, qbI_s, qbL_s, qbV_s, qbR_s, qbR_n, qbN_s, qbN_n, qbIX_s, qbIX_n, qbVX_s, qbVX_n, cond_true, cond_false, cond_dec, jadd, jsub, jmul, jneg, li_0, li_1, li_2, li_3, li_4, li_5, li_6, li_7, li_8, li_9, li_10, li_14, li_15, li_16, li_19, li_20, li_24, li_30, li_31, li_32, li_39, li_40, li_48, li_57, li_59, li_60, li_63, li_65, li_80, li_81, li_90, li_97, li_99, li_100, li_122, li_126, li_127, li_150, li_160, li_200, li_225, li_255, li_400, li_799, li_800, li_999, li_2400, li_3239, li_3240, li_1048575, li_1431655765, li_858993459, li_252645135, eqb_j, ltb_j, leb_j, inb_j, ix_j, ix_n, nz_b, nz_0, nz_1, eqb_b, bnot, vI_ne, vI_eq, gIL, gLI, gIR, gRI, gLR, gRL, Int.reduceLT, Int.reduceLE, Int.reduceEq, Int.reduceAdd, Int.reduceSub, Int.reduceMul, Int.reduceNeg, Int.reduceToNat, Nat.reduceEqDiff, reduceIte, if_neg, if_pos, gI_ne, tR_s, within_s, settled_s m hBe hCn hAs, hx, fX3_setRoom_d, fX3_setRoom_0, g1, show bI false = 0 from rfl]
          · have w1 := fixed_m (m' := w) hBe hAs fun c' k hc => by
              rw [f1.1 c' k (by omega), gI_sI, gI_sI, if_neg (by omega), if_neg (by omega)]
            rw [fX13_room_d]
            simp (disch := omega) only [fX13_room_0, fX13_room_15, qbI_s, qbL_s, qbV_s, qbR_s, qbR_n, qbN_s, qbN_n, qbIX_s, qbIX_n, qbVX_s, qbVX_n, cond_true, cond_false, cond_dec, jadd, jsub, jmul, jneg, li_0, li_1, li_2, li_3, li_4, li_5, li_6, li_7, li_8, li_9, li_10, li_14, li_15, li_16, li_19, li_20, li_24, li_30, li_31, li_32, li_39, li_40, li_48, li_57, li_59, li_60, li_63, li_65, li_80, li_81, li_90, li_97, li_99, li_100, li_122, li_126, li_127, li_150, li_160, li_200, li_225, li_255, li_400, li_799, li_800, li_999, li_2400, li_3239, li_3240, li_1048575, li_1431655765, li_858993459, li_252645135, eqb_j, ltb_j, leb_j, inb_j, ix_j, ix_n, nz_b, nz_0, nz_1, eqb_b, bnot, vI_ne, vI_eq, gIL, gLI, gIR, gRI, gLR, gRL, Int.reduceLT, Int.reduceLE, Int.reduceEq, Int.reduceAdd, Int.reduceSub, Int.reduceMul, Int.reduceNeg, Int.reduceToNat, Nat.reduceEqDiff, reduceIte, if_neg, if_pos, gI_ne, ll_0, ll_1, ll_3, ll_5, ll_9, ll_10, ll_13, ll_14, ll_19, ll_20, ll_32, ll_60, ll_126, ll_799, ll_1024, ll_1048576, ll_67108864, Zladd, Zlsub, Zlmul, Zlneg, toL, lg_lt, lg_gt, lg_le, tM_s, in_s, w1, hx, show bI false = 0 from rfl]
          · intro j hj
            rw [vI_of (q 83 j (by omega))]
            exact (hBe.2.2 hu.1).2 j hj
        · refine QOp.same (x := Zi (-4)) hR ?_ ?_
          · rw [fX11_room_d]
            simp (disch := omega) only [fX11_room_0, fX11_room_13, qbI_s, qbL_s, qbV_s, qbR_s, qbR_n, qbN_s, qbN_n, qbIX_s, qbIX_n, qbVX_s, qbVX_n, cond_true, cond_false, cond_dec, jadd, jsub, jmul, jneg, li_0, li_1, li_2, li_3, li_4, li_5, li_6, li_7, li_8, li_9, li_10, li_14, li_15, li_16, li_19, li_20, li_24, li_30, li_31, li_32, li_39, li_40, li_48, li_57, li_59, li_60, li_63, li_65, li_80, li_81, li_90, li_97, li_99, li_100, li_122, li_126, li_127, li_150, li_160, li_200, li_225, li_255, li_400, li_799, li_800, li_999, li_2400, li_3239, li_3240, li_1048575, li_1431655765, li_858993459, li_252645135, eqb_j, ltb_j, leb_j, inb_j, ix_j, ix_n, nz_b, nz_0, nz_1, eqb_b, bnot, vI_ne, vI_eq, gIL, gLI, gIR, gRI, gLR, gRL, Int.reduceLT, Int.reduceLE, Int.reduceEq, Int.reduceAdd, Int.reduceSub, Int.reduceMul, Int.reduceNeg, Int.reduceToNat, Nat.reduceEqDiff, reduceIte, if_neg, if_pos, gI_ne, tR_s, within_s, settled_s m hBe hCn hAs, hx]
          · rw [fX13_room_d]
            simp (disch := omega) only [fX13_room_0, fX13_room_15, qbI_s, qbL_s, qbV_s, qbR_s, qbR_n, qbN_s, qbN_n, qbIX_s, qbIX_n, qbVX_s, qbVX_n, cond_true, cond_false, cond_dec, jadd, jsub, jmul, jneg, li_0, li_1, li_2, li_3, li_4, li_5, li_6, li_7, li_8, li_9, li_10, li_14, li_15, li_16, li_19, li_20, li_24, li_30, li_31, li_32, li_39, li_40, li_48, li_57, li_59, li_60, li_63, li_65, li_80, li_81, li_90, li_97, li_99, li_100, li_122, li_126, li_127, li_150, li_160, li_200, li_225, li_255, li_400, li_799, li_800, li_999, li_2400, li_3239, li_3240, li_1048575, li_1431655765, li_858993459, li_252645135, eqb_j, ltb_j, leb_j, inb_j, ix_j, ix_n, nz_b, nz_0, nz_1, eqb_b, bnot, vI_ne, vI_eq, gIL, gLI, gIR, gRI, gLR, gRL, Int.reduceLT, Int.reduceLE, Int.reduceEq, Int.reduceAdd, Int.reduceSub, Int.reduceMul, Int.reduceNeg, Int.reduceToNat, Nat.reduceEqDiff, reduceIte, if_neg, if_pos, gI_ne, ll_0, ll_1, ll_3, ll_5, ll_9, ll_10, ll_13, ll_14, ll_19, ll_20, ll_32, ll_60, ll_126, ll_799, ll_1024, ll_1048576, ll_67108864, Zladd, Zlsub, Zlmul, Zlneg, toL, lg_lt, lg_gt, lg_le, tM_s, in_s, fixed_s m hBe hAs, hx]
      · refine QOp.same (x := Zi (-2)) hR ?_ ?_
        · rw [fX11_room_d]
          simp (disch := omega) only [fX11_room_0, fX11_room_13, qbI_s, qbL_s, qbV_s, qbR_s, qbR_n, qbN_s, qbN_n, qbIX_s, qbIX_n, qbVX_s, qbVX_n, cond_true, cond_false, cond_dec, jadd, jsub, jmul, jneg, li_0, li_1, li_2, li_3, li_4, li_5, li_6, li_7, li_8, li_9, li_10, li_14, li_15, li_16, li_19, li_20, li_24, li_30, li_31, li_32, li_39, li_40, li_48, li_57, li_59, li_60, li_63, li_65, li_80, li_81, li_90, li_97, li_99, li_100, li_122, li_126, li_127, li_150, li_160, li_200, li_225, li_255, li_400, li_799, li_800, li_999, li_2400, li_3239, li_3240, li_1048575, li_1431655765, li_858993459, li_252645135, eqb_j, ltb_j, leb_j, inb_j, ix_j, ix_n, nz_b, nz_0, nz_1, eqb_b, bnot, vI_ne, vI_eq, gIL, gLI, gIR, gRI, gLR, gRL, Int.reduceLT, Int.reduceLE, Int.reduceEq, Int.reduceAdd, Int.reduceSub, Int.reduceMul, Int.reduceNeg, Int.reduceToNat, Nat.reduceEqDiff, reduceIte, if_neg, if_pos, gI_ne, tR_s, within_s]
        · rw [fX13_room_d]
          simp (disch := omega) only [fX13_room_0, fX13_room_15, qbI_s, qbL_s, qbV_s, qbR_s, qbR_n, qbN_s, qbN_n, qbIX_s, qbIX_n, qbVX_s, qbVX_n, cond_true, cond_false, cond_dec, jadd, jsub, jmul, jneg, li_0, li_1, li_2, li_3, li_4, li_5, li_6, li_7, li_8, li_9, li_10, li_14, li_15, li_16, li_19, li_20, li_24, li_30, li_31, li_32, li_39, li_40, li_48, li_57, li_59, li_60, li_63, li_65, li_80, li_81, li_90, li_97, li_99, li_100, li_122, li_126, li_127, li_150, li_160, li_200, li_225, li_255, li_400, li_799, li_800, li_999, li_2400, li_3239, li_3240, li_1048575, li_1431655765, li_858993459, li_252645135, eqb_j, ltb_j, leb_j, inb_j, ix_j, ix_n, nz_b, nz_0, nz_1, eqb_b, bnot, vI_ne, vI_eq, gIL, gLI, gIR, gRI, gLR, gRL, Int.reduceLT, Int.reduceLE, Int.reduceEq, Int.reduceAdd, Int.reduceSub, Int.reduceMul, Int.reduceNeg, Int.reduceToNat, Nat.reduceEqDiff, reduceIte, if_neg, if_pos, gI_ne, ll_0, ll_1, ll_3, ll_5, ll_9, ll_10, ll_13, ll_14, ll_19, ll_20, ll_32, ll_60, ll_126, ll_799, ll_1024, ll_1048576, ll_67108864, Zladd, Zlsub, Zlmul, Zlneg, toL, lg_lt, lg_gt, lg_le, tM_s, in_s]
    · refine QOp.same (x := Zi (-2)) hR ?_ ?_
      · rw [fX11_room_d]
        simp (disch := omega) only [fX11_room_0, fX11_room_13, qbI_s, qbL_s, qbV_s, qbR_s, qbR_n, qbN_s, qbN_n, qbIX_s, qbIX_n, qbVX_s, qbVX_n, cond_true, cond_false, cond_dec, jadd, jsub, jmul, jneg, li_0, li_1, li_2, li_3, li_4, li_5, li_6, li_7, li_8, li_9, li_10, li_14, li_15, li_16, li_19, li_20, li_24, li_30, li_31, li_32, li_39, li_40, li_48, li_57, li_59, li_60, li_63, li_65, li_80, li_81, li_90, li_97, li_99, li_100, li_122, li_126, li_127, li_150, li_160, li_200, li_225, li_255, li_400, li_799, li_800, li_999, li_2400, li_3239, li_3240, li_1048575, li_1431655765, li_858993459, li_252645135, eqb_j, ltb_j, leb_j, inb_j, ix_j, ix_n, nz_b, nz_0, nz_1, eqb_b, bnot, vI_ne, vI_eq, gIL, gLI, gIR, gRI, gLR, gRL, Int.reduceLT, Int.reduceLE, Int.reduceEq, Int.reduceAdd, Int.reduceSub, Int.reduceMul, Int.reduceNeg, Int.reduceToNat, Nat.reduceEqDiff, reduceIte, if_neg, if_pos, gI_ne, tR_s, within_s]
      · rw [fX13_room_d]
        simp (disch := omega) only [fX13_room_0, fX13_room_15, qbI_s, qbL_s, qbV_s, qbR_s, qbR_n, qbN_s, qbN_n, qbIX_s, qbIX_n, qbVX_s, qbVX_n, cond_true, cond_false, cond_dec, jadd, jsub, jmul, jneg, li_0, li_1, li_2, li_3, li_4, li_5, li_6, li_7, li_8, li_9, li_10, li_14, li_15, li_16, li_19, li_20, li_24, li_30, li_31, li_32, li_39, li_40, li_48, li_57, li_59, li_60, li_63, li_65, li_80, li_81, li_90, li_97, li_99, li_100, li_122, li_126, li_127, li_150, li_160, li_200, li_225, li_255, li_400, li_799, li_800, li_999, li_2400, li_3239, li_3240, li_1048575, li_1431655765, li_858993459, li_252645135, eqb_j, ltb_j, leb_j, inb_j, ix_j, ix_n, nz_b, nz_0, nz_1, eqb_b, bnot, vI_ne, vI_eq, gIL, gLI, gIR, gRI, gLR, gRL, Int.reduceLT, Int.reduceLE, Int.reduceEq, Int.reduceAdd, Int.reduceSub, Int.reduceMul, Int.reduceNeg, Int.reduceToNat, Nat.reduceEqDiff, reduceIte, if_neg, if_pos, gI_ne, ll_0, ll_1, ll_3, ll_5, ll_9, ll_10, ll_13, ll_14, ll_19, ll_20, ll_32, ll_60, ll_126, ll_799, ll_1024, ll_1048576, ll_67108864, Zladd, Zlsub, Zlmul, Zlneg, toL, lg_lt, lg_gt, lg_le, tM_s, in_s]
  · refine QOp.same (x := Zi (-2)) hR ?_ ?_
    · rw [fX11_room_d]
      simp (disch := omega) only [fX11_room_0, fX11_room_13, qbI_s, qbL_s, qbV_s, qbR_s, qbR_n, qbN_s, qbN_n, qbIX_s, qbIX_n, qbVX_s, qbVX_n, cond_true, cond_false, cond_dec, jadd, jsub, jmul, jneg, li_0, li_1, li_2, li_3, li_4, li_5, li_6, li_7, li_8, li_9, li_10, li_14, li_15, li_16, li_19, li_20, li_24, li_30, li_31, li_32, li_39, li_40, li_48, li_57, li_59, li_60, li_63, li_65, li_80, li_81, li_90, li_97, li_99, li_100, li_122, li_126, li_127, li_150, li_160, li_200, li_225, li_255, li_400, li_799, li_800, li_999, li_2400, li_3239, li_3240, li_1048575, li_1431655765, li_858993459, li_252645135, eqb_j, ltb_j, leb_j, inb_j, ix_j, ix_n, nz_b, nz_0, nz_1, eqb_b, bnot, vI_ne, vI_eq, gIL, gLI, gIR, gRI, gLR, gRL, Int.reduceLT, Int.reduceLE, Int.reduceEq, Int.reduceAdd, Int.reduceSub, Int.reduceMul, Int.reduceNeg, Int.reduceToNat, Nat.reduceEqDiff, reduceIte, if_neg, if_pos, gI_ne, tR_s, within_s]
    · rw [fX13_room_d]
      simp (disch := omega) only [fX13_room_0, fX13_room_15, qbI_s, qbL_s, qbV_s, qbR_s, qbR_n, qbN_s, qbN_n, qbIX_s, qbIX_n, qbVX_s, qbVX_n, cond_true, cond_false, cond_dec, jadd, jsub, jmul, jneg, li_0, li_1, li_2, li_3, li_4, li_5, li_6, li_7, li_8, li_9, li_10, li_14, li_15, li_16, li_19, li_20, li_24, li_30, li_31, li_32, li_39, li_40, li_48, li_57, li_59, li_60, li_63, li_65, li_80, li_81, li_90, li_97, li_99, li_100, li_122, li_126, li_127, li_150, li_160, li_200, li_225, li_255, li_400, li_799, li_800, li_999, li_2400, li_3239, li_3240, li_1048575, li_1431655765, li_858993459, li_252645135, eqb_j, ltb_j, leb_j, inb_j, ix_j, ix_n, nz_b, nz_0, nz_1, eqb_b, bnot, vI_ne, vI_eq, gIL, gLI, gIR, gRI, gLR, gRL, Int.reduceLT, Int.reduceLE, Int.reduceEq, Int.reduceAdd, Int.reduceSub, Int.reduceMul, Int.reduceNeg, Int.reduceToNat, Nat.reduceEqDiff, reduceIte, if_neg, if_pos, gI_ne, ll_0, ll_1, ll_3, ll_5, ll_9, ll_10, ll_13, ll_14, ll_19, ll_20, ll_32, ll_60, ll_126, ll_799, ll_1024, ll_1048576, ll_67108864, Zladd, Zlsub, Zlmul, Zlneg, toL, lg_lt, lg_gt, lg_le, tM_s, in_s]
