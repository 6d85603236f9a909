/-! what is kept of the evening; rows made ready; a meeting -/
theorem RowOk.cg {d d' : Nat → Nat → Int} {K : Nat} {S E S' E' : Nat → Int} (h : RowOk d K S E) (q1 : ∀ c k, dE c k → d' c k = d c k) (q2 : ∀ k, k < K → ∀ c, 134 ≤ c → c ≤ 138 → d' c k = d c k) (q3 : ∀ a : Nat, (a : Int) < d 98 32 → S' a = S a ∧ E' a = E a) : RowOk d' K S' E' := by
  have e98 := q1 98 32 (by unfold dE; omega)
  refine ⟨fun a ha => ?_, fun v u hv => ?_⟩
  · rw [e98] at ha
    rw [(q3 a ha).1, (q3 a ha).2, q1 125 a (by unfold dE; omega)]
    exact h.1 a ha
  · obtain ⟨h1, h2, h3, h4, h5, h6⟩ := hv
    obtain ⟨x, v', e, hF, hr⟩ := h.2 v u ⟨fun c k hc => by rw [h1 c k hc, q1 c k hc], h2, h3, fun k hk c c1 c2 => by rw [h4 k hk c c1 c2, q2 k hk c c1 c2], fun k hk => by rw [← q2 k hk 134 (by omega) (by omega)]; exact h5 k hk, h6⟩
    refine ⟨x, v', e, hF, fun a ha => ?_⟩
    rw [e98] at ha
    rw [(q3 a ha).1, (q3 a ha).2, q1 125 a (by unfold dE; omega)]
    exact hr a ha
noncomputable def rwS (m : qM) (K a : Nat) : Int := vI m 81 (40 * K + a)
noncomputable def rwE (m : qM) (K a : Nat) : Int := vI m 82 (40 * K + a)
def REve (m : qM) : Prop := ∀ j : Nat, j < 81 → vI m 83 j ≠ 0 → (j : Int) ≤ vI m 98 52 ∧ RowOk (vI m) j (rwS m j) (rwE m j)
theorem REve.ek {m m' : qM} (hR : R0 m) (h : REve m) (e : EK m m') : REve m' := by
  intro j hj hd
  rcases e with e | ⟨e1, e2⟩
  · exact absurd (e j hj) hd
  · have q : ∀ c k, EvD c k → (134 ≤ c → c ≤ 138 → (k : Int) < vI m 98 52) → vI m' c k = vI m c k := e2
    have hd' : vI m 83 j ≠ 0 := by rw [← q 83 j (by unfold EvD; omega) (by omega)]; exact hd
    obtain ⟨h1, h2⟩ := h j hj hd'
    refine ⟨by omega, h2.cg (fun c k hc => q c k (by unfold dE at hc; unfold EvD; omega) (by unfold dE at hc; omega)) (fun k hk c c1 c2 => q c k (by unfold EvD; omega) (fun _ _ => by omega)) (fun a ha => ?_)⟩
    unfold rwS rwE
    exact ⟨q 81 _ (by unfold EvD; omega) (by omega), q 82 _ (by unfold EvD; omega) (by omega)⟩
def RAll (m : qM) : Prop := R0 m ∧ REve m
def QAll (m : qM) (fC fM : qM → Option (Int32 × qM)) : Prop := ∃ x m1 m2, fC m = some (x, m1) ∧ fM m1 = some (x, m2) ∧ RAll m2
theorem QOp.all {m : qM} {fC fM : qM → Option (Int32 × qM)} (h : RAll m) (q : QOp m fC fM) : QAll m fC fM := by
  obtain ⟨x, m1, m2, e1, e2, hR, hE⟩ := q
  exact ⟨x, m1, m2, e1, e2, hR, h.2.ek h.1 hE⟩
theorem R0.ev {m m' : qM} (hR : R0 m) (hb : vI m 98 33 = 1) (q : ∀ c k, ¬ (80 ≤ c ∧ c ≤ 92 ∨ 139 ≤ c ∧ c ≤ 150 ∨ c = 98 ∧ k = 70) → gI m' c k = gI m c k) (g : gR m' = gR m) : R0 m' := by
  obtain ⟨⟨hT, hRd, hRu, hFo, hHa⟩, ⟨hPt, hPf, hAp, hWk⟩, ⟨hAs, hPa, hCl, hDi, hBi, hCn⟩, ⟨hTe, hBe, hNo, hPo⟩⟩ := hR
  have e33 : vI m' 98 33 = 1 := by rw [vI_of (q 98 33 (by omega)), hb]
  have hBe' : RBeg m' := ⟨by rw [vI_of (q 0 10 (by omega)), vI_of (q 98 33 (by omega))]; exact hBe.1, Or.inr e33, fun z => by omega⟩
  exact ⟨⟨hT.mono (fun c k hc => q c k (by omega)), hRd.mono (fun c k hc => q c k (by omega)), hRu.mono (fun c k hc => q c k (by omega)), hFo.mono (fun c k hc => q c k (by omega)), hHa.mono (fun c k hc => q c k (by omega))⟩, ⟨hPt.mono (fun c k hc => q c k (by omega)), hPf.mono (fun c k hc => q c k (by omega)), hAp.mono (fun c k hc => q c k (by omega)), hWk.mono (fun c k hc => q c k (by omega))⟩, ⟨hAs.mono (fun c k hc => q c k (by omega)), hPa.mono (fun c k hc => q c k (by omega)), hCl.mono (fun c k hc => q c k (by omega)), hDi.mono (fun c k hc => q c k (by omega)), hBi.mono (fun c k hc => q c k (by omega)), hCn.mono (fun c k hc => q c k (by omega))⟩, ⟨hTe.mono (fun c k hc => q c k (by omega)), (hBe'), hNo.mono (fun c k hc => q c k (by omega)), hPo.mono (fun c k hc => q c k (by omega)) g⟩⟩
theorem known_s {m : qM} (hTe : RTell m) (u : Int) (hu : 0 ≤ u ∧ u ≤ 799) : ∃ K : Nat, fX9_knownAt (Zi u) m = some (Zi K, m) ∧ K ≤ 80 ∧ (K : Int) ≤ vI m 98 52 ∧ (∀ k, k < K → vI m 134 k ≤ u) ∧ (vI m 98 52 = K ∨ u < vI m 134 K) := by
  obtain ⟨e1, e2, e3, e4, e5, e6⟩ := hTe
  have loop : ∀ (k g : Nat), k < g → (k : Int) ≤ vI m 98 52 → (vI m 98 52 = k ∨ u < vI m 134 k) → ∃ K : Nat, fX9_knownAt_3 fX9_knownAt_15 g (Zi u) (Zi k) m = some (Zi K, m) ∧ K ≤ 80 ∧ (K : Int) ≤ vI m 98 52 ∧ (∀ k, k < K → vI m 134 k ≤ u) ∧ (vI m 98 52 = K ∨ u < vI m 134 K) := by
    intro k
    induction k with
    | zero =>
      intro g hg h1 h2
      obtain ⟨g, rfl⟩ : ∃ g', g = g' + 1 := ⟨g - 1, by omega⟩
      refine ⟨0, ?_, by omega, h1, fun k hk => by omega, h2⟩
      simp (disch := omega) only [fX9_knownAt_3, fX9_knownAt_15, qbI_s, qbL_s, qbV_s, qbR_s, qbR_n, qbN_s, qbN_n, qbIX_s, qbIX_n, qbVX_s, qbVX_n, cond_true, cond_false, cond_dec, jadd, jsub, jmul, jneg, li_0, li_1, li_2, li_3, li_4, li_5, li_6, li_7, li_8, li_9, li_10, li_14, li_15, li_16, li_19, li_20, li_24, li_30, li_31, li_32, li_39, li_40, li_48, li_57, li_59, li_60, li_63, li_65, li_80, li_81, li_90, li_97, li_99, li_100, li_122, li_126, li_127, li_150, li_160, li_200, li_225, li_255, li_400, li_799, li_800, li_999, li_2400, li_3239, li_3240, li_1048575, li_1431655765, li_858993459, li_252645135, eqb_j, ltb_j, leb_j, inb_j, ix_j, ix_n, nz_b, nz_0, nz_1, eqb_b, bnot, vI_ne, vI_eq, gIL, gLI, gIR, gRI, gLR, gRL, Int.reduceLT, Int.reduceLE, Int.reduceEq, Int.reduceAdd, Int.reduceSub, Int.reduceMul, Int.reduceNeg, Int.reduceToNat, Nat.reduceEqDiff, reduceIte, if_neg, if_pos, gI_ne]
    | succ k ih =>
      intro g hg h1 h2
      obtain ⟨g, rfl⟩ : ∃ g', g = g' + 1 := ⟨g - 1, by omega⟩
      have c := (e4 k (by omega)).2.1
      have i1 : (((k + 1 : Nat) : Int) - 1).toNat = k := by omega
      have i2 : ((k + 1 : Nat) : Int) + -1 = k := by omega
      have r := e5 k (by omega)
      by_cases g1 : vI m 134 k ≤ u
      · refine ⟨k + 1, ?_, by omega, h1, fun j hj => by have := e6 j k (by omega) (by omega); omega, h2⟩
        simp (disch := omega) only [fX9_knownAt_3, fX9_knownAt_15, qbI_s, qbL_s, qbV_s, qbR_s, qbR_n, qbN_s, qbN_n, qbIX_s, qbIX_n, qbVX_s, qbVX_n, cond_true, cond_false, cond_dec, jadd, jsub, jmul, jneg, li_0, li_1, li_2, li_3, li_4, li_5, li_6, li_7, li_8, li_9, li_10, li_14, li_15, li_16, li_19, li_20, li_24, li_30, li_31, li_32, li_39, li_40, li_48, li_57, li_59, li_60, li_63, li_65, li_80, li_81, li_90, li_97, li_99, li_100, li_122, li_126, li_127, li_150, li_160, li_200, li_225, li_255, li_400, li_799, li_800, li_999, li_2400, li_3239, li_3240, li_1048575, li_1431655765, li_858993459, li_252645135, eqb_j, ltb_j, leb_j, inb_j, ix_j, ix_n, nz_b, nz_0, nz_1, eqb_b, bnot, vI_ne, vI_eq, gIL, gLI, gIR, gRI, gLR, gRL, Int.reduceLT, Int.reduceLE, Int.reduceEq, Int.reduceAdd, Int.reduceSub, Int.reduceMul, Int.reduceNeg, Int.reduceToNat, Nat.reduceEqDiff, reduceIte, if_neg, if_pos, gI_ne, gIv 76, i1, c, show (-1 : Int32) = Zi (-1) from rfl]
      · obtain ⟨K, r1, r2⟩ := ih g (by omega) (by omega) (Or.inr (by omega))
        refine ⟨K, ?_, r2⟩
        simp (disch := omega) only [fX9_knownAt_3, qbI_s, qbL_s, qbV_s, qbR_s, qbR_n, qbN_s, qbN_n, qbIX_s, qbIX_n, qbVX_s, qbVX_n, cond_true, cond_false, cond_dec, jadd, jsub, jmul, jneg, li_0, li_1, li_2, li_3, li_4, li_5, li_6, li_7, li_8, li_9, li_10, li_14, li_15, li_16, li_19, li_20, li_24, li_30, li_31, li_32, li_39, li_40, li_48, li_57, li_59, li_60, li_63, li_65, li_80, li_81, li_90, li_97, li_99, li_100, li_122, li_126, li_127, li_150, li_160, li_200, li_225, li_255, li_400, li_799, li_800, li_999, li_2400, li_3239, li_3240, li_1048575, li_1431655765, li_858993459, li_252645135, eqb_j, ltb_j, leb_j, inb_j, ix_j, ix_n, nz_b, nz_0, nz_1, eqb_b, bnot, vI_ne, vI_eq, gIL, gLI, gIR, gRI, gLR, gRL, Int.reduceLT, Int.reduceLE, Int.reduceEq, Int.reduceAdd, Int.reduceSub, Int.reduceMul, Int.reduceNeg, Int.reduceToNat, Nat.reduceEqDiff, reduceIte, if_neg, if_pos, gI_ne, gIv 76, i1, c, i2, show (-1 : Int32) = Zi (-1) from rfl]
        exact r1
  obtain ⟨K, r1, r2⟩ := loop (vI m 98 52).toNat FU (by rw [FU_d]; omega) (by omega) (Or.inl (by omega))
  refine ⟨K, ?_, r2⟩
  rw [show (((vI m 98 52).toNat : Nat) : Int) = vI m 98 52 by omega] at r1
  rw [fX9_knownAt_d]
  simp (disch := omega) only [fX9_knownAt_0, qbI_s, qbL_s, qbV_s, qbR_s, qbR_n, qbN_s, qbN_n, qbIX_s, qbIX_n, qbVX_s, qbVX_n, cond_true, cond_false, cond_dec, jadd, jsub, jmul, jneg, li_0, li_1, li_2, li_3, li_4, li_5, li_6, li_7, li_8, li_9, li_10, li_14, li_15, li_16, li_19, li_20, li_24, li_30, li_31, li_32, li_39, li_40, li_48, li_57, li_59, li_60, li_63, li_65, li_80, li_81, li_90, li_97, li_99, li_100, li_122, li_126, li_127, li_150, li_160, li_200, li_225, li_255, li_400, li_799, li_800, li_999, li_2400, li_3239, li_3240, li_1048575, li_1431655765, li_858993459, li_252645135, eqb_j, ltb_j, leb_j, inb_j, ix_j, ix_n, nz_b, nz_0, nz_1, eqb_b, bnot, vI_ne, vI_eq, gIL, gLI, gIR, gRI, gLR, gRL, Int.reduceLT, Int.reduceLE, Int.reduceEq, Int.reduceAdd, Int.reduceSub, Int.reduceMul, Int.reduceNeg, Int.reduceToNat, Nat.reduceEqDiff, reduceIte, if_neg, if_pos, gI_ne, gIv 74, e1]
  exact r1
theorem VD.of {m v : qM} (hTe : RTell m) (K : Nat) (u : Int) (hu : -1 ≤ u ∧ u ≤ 799) (hK : (K : Int) ≤ vI m 98 52) (h1 : ∀ k, k < K → vI m 134 k ≤ u) (h2 : vI m 98 52 = K ∨ u < vI m 134 K) (q : ∀ c k, dE c k ∨ 134 ≤ c ∧ c ≤ 138 ∨ c = 98 ∧ k = 52 → gI v c k = gI m c k) : VD (vI m) K u v := by
  have e52 := vI_of (q 98 52 (by omega))
  refine ⟨fun c k hc => vI_of (q c k (Or.inl hc)), by rw [e52]; exact ⟨hK, hTe.2.2.1⟩, hu, fun k hk c c1 c2 => vI_of (q c k (by omega)), h1, ?_⟩
  rw [e52, vI_of (q 134 K (by omega))]
  exact h2
/-- a row is made ready -/
theorem ready_s {m : qM} (h : RAll m) (hb : vI m 98 33 = 1) (K : Nat) (hK8 : K ≤ 80) (hK : (K : Int) ≤ vI m 98 52) : wp (fX1_makeReady (Zi K) m) (fun _ m1 => Fr evF m m1 ∧ RAll m1 ∧ vI m1 83 K ≠ 0 ∧ ∀ j, j ≤ 80 → vI m 83 j ≠ 0 → vI m1 83 j ≠ 0 ∧ ∀ a, a < 40 → rwS m1 j a = rwS m j a ∧ rwE m1 j a = rwE m j a) := by
  obtain ⟨hR, hE⟩ := h
  by_cases g0 : vI m 83 K = 0
  · obtain ⟨S, E, w, r1, r2, r3, r4, r5, r6⟩ := evening hR K hK8 hK
    have n1 := hR.2.2.1.1.2.1
    have n2 := hR.2.2.1.1.2.2.1
    have q : ∀ c k, ¬ (80 ≤ c ∧ c ≤ 92) → gI w c k = gI m c k := fun c k hc => r2.1 c k hc
    have keepR : ∀ j a, j ≠ K → a < 40 → rwS w j a = rwS m j a ∧ rwE w j a = rwE m j a := fun j a hj ha => by
      unfold rwS rwE
      exact r4 _ (by omega)
    refine wp_e (r6 g0) ⟨r2, ⟨hR.ev hb (fun c k hc => q c k (by omega)) r2.2.2, fun j hj hd => ?_⟩, by rw [r5, if_pos rfl]; omega, fun j hj hd => ⟨?_, fun a ha => ?_⟩⟩
    · by_cases e : j = K
      · subst e
        refine ⟨by rw [r2.v 98 52 (by unfold evF; omega)]; exact hK, r1.cg (fun c k hc => vI_of (q c k (by unfold dE at hc; omega))) (fun k _ c c1 c2 => vI_of (q c k (by omega))) (fun a ha => r3 a ha)⟩
      · rw [r5, if_neg e] at hd
        obtain ⟨k1, k2⟩ := hE j hj hd
        refine ⟨by rw [r2.v 98 52 (by unfold evF; omega)]; exact k1, k2.cg (fun c k hc => vI_of (q c k (by unfold dE at hc; omega))) (fun k _ c c1 c2 => vI_of (q c k (by omega))) (fun a ha => keepR j a e (by omega))⟩
    · rw [r5]
      split
      · omega
      · exact hd
    · exact keepR j a (fun e => by rw [e] at hd; exact hd g0) ha
  · have rv := vI_r m 83 K
    refine wp_e (x := ()) (m := m) ?_ ⟨Fr.rf m, ⟨hR, hE⟩, g0, fun j _ hd => ⟨hd, fun a _ => ⟨rfl, rfl⟩⟩⟩
    rw [fX1_makeReady_d]
    simp (disch := omega) only [fX1_makeReady_0, fX1_makeReady_10, qbI_s, qbL_s, qbV_s, qbR_s, qbR_n, qbN_s, qbN_n, qbIX_s, qbIX_n, qbVX_s, qbVX_n, cond_true, cond_false, cond_dec, jadd, jsub, jmul, jneg, li_0, li_1, li_2, li_3, li_4, li_5, li_6, li_7, li_8, li_9, li_10, li_14, li_15, li_16, li_19, li_20, li_24, li_30, li_31, li_32, li_39, li_40, li_48, li_57, li_59, li_60, li_63, li_65, li_80, li_81, li_90, li_97, li_99, li_100, li_122, li_126, li_127, li_150, li_160, li_200, li_225, li_255, li_400, li_799, li_800, li_999, li_2400, li_3239, li_3240, li_1048575, li_1431655765, li_858993459, li_252645135, eqb_j, ltb_j, leb_j, inb_j, ix_j, ix_n, nz_b, nz_0, nz_1, eqb_b, bnot, vI_ne, vI_eq, gIL, gLI, gIR, gRI, gLR, gRL, Int.reduceLT, Int.reduceLE, Int.reduceEq, Int.reduceAdd, Int.reduceSub, Int.reduceMul, Int.reduceNeg, Int.reduceToNat, Nat.reduceEqDiff, reduceIte, if_neg, if_pos, gI_ne, within_s, bI_dec, gIv 83]
theorem startOf_s (m : qM) (K a : Nat) (hK : K ≤ 80) (ha : a < 40) : fX1_startOf (Zi a) (Zi K) m = some (Zi (rwS m K a), m) := by
  have i1 : ((K : Int) * 40 + a).toNat = 40 * K + a := by omega
  rw [fX1_startOf_d]
  simp (disch := omega) only [fX1_startOf_0, fX1_startOf_17, qbI_s, qbL_s, qbV_s, qbR_s, qbR_n, qbN_s, qbN_n, qbIX_s, qbIX_n, qbVX_s, qbVX_n, cond_true, cond_false, cond_dec, jadd, jsub, jmul, jneg, li_0, li_1, li_2, li_3, li_4, li_5, li_6, li_7, li_8, li_9, li_10, li_14, li_15, li_16, li_19, li_20, li_24, li_30, li_31, li_32, li_39, li_40, li_48, li_57, li_59, li_60, li_63, li_65, li_80, li_81, li_90, li_97, li_99, li_100, li_122, li_126, li_127, li_150, li_160, li_200, li_225, li_255, li_400, li_799, li_800, li_999, li_2400, li_3239, li_3240, li_1048575, li_1431655765, li_858993459, li_252645135, eqb_j, ltb_j, leb_j, inb_j, ix_j, ix_n, nz_b, nz_0, nz_1, eqb_b, bnot, vI_ne, vI_eq, gIL, gLI, gIR, gRI, gLR, gRL, Int.reduceLT, Int.reduceLE, Int.reduceEq, Int.reduceAdd, Int.reduceSub, Int.reduceMul, Int.reduceNeg, Int.reduceToNat, Nat.reduceEqDiff, reduceIte, if_neg, if_pos, gI_ne, within_s, bI_dec, gIv 81, i1]
  rfl
theorem stopOf_s (m : qM) (K a : Nat) (hK : K ≤ 80) (ha : a < 40) : fX1_stopOf (Zi a) (Zi K) m = some (Zi (rwE m K a), m) := by
  have i1 : ((K : Int) * 40 + a).toNat = 40 * K + a := by omega
  rw [fX1_stopOf_d]
  simp (disch := omega) only [fX1_stopOf_0, fX1_stopOf_17, qbI_s, qbL_s, qbV_s, qbR_s, qbR_n, qbN_s, qbN_n, qbIX_s, qbIX_n, qbVX_s, qbVX_n, cond_true, cond_false, cond_dec, jadd, jsub, jmul, jneg, li_0, li_1, li_2, li_3, li_4, li_5, li_6, li_7, li_8, li_9, li_10, li_14, li_15, li_16, li_19, li_20, li_24, li_30, li_31, li_32, li_39, li_40, li_48, li_57, li_59, li_60, li_63, li_65, li_80, li_81, li_90, li_97, li_99, li_100, li_122, li_126, li_127, li_150, li_160, li_200, li_225, li_255, li_400, li_799, li_800, li_999, li_2400, li_3239, li_3240, li_1048575, li_1431655765, li_858993459, li_252645135, eqb_j, ltb_j, leb_j, inb_j, ix_j, ix_n, nz_b, nz_0, nz_1, eqb_b, bnot, vI_ne, vI_eq, gIL, gLI, gIR, gRI, gLR, gRL, Int.reduceLT, Int.reduceLE, Int.reduceEq, Int.reduceAdd, Int.reduceSub, Int.reduceMul, Int.reduceNeg, Int.reduceToNat, Nat.reduceEqDiff, reduceIte, if_neg, if_pos, gI_ne, within_s, bI_dec, gIv 82, i1]
  rfl
/-- the reference goes through, from a world whose row is ready -/
theorem go_s {m v : qM} (h : RAll m) (hb : vI m 98 33 = 1) (K : Nat) (hK8 : K ≤ 80) (hd : vI m 83 K ≠ 0) (u : Int) (hu : -1 ≤ u ∧ u ≤ 799) (h1 : ∀ k, k < K → vI m 134 k ≤ u) (h2 : vI m 98 52 = K ∨ u < vI m 134 K) (q : ∀ c k, ¬ (139 ≤ c ∧ c ≤ 150 ∨ c = 98 ∧ k = 70) → gI v c k = gI m c k) (g : gR v = gR m) : wp (fX13_goThrough (Zi u) v) (fun _ v' => Fr (fun c k => DynF c k ∨ c = 98 ∧ k = 70) v v' ∧ (∀ c k, ¬ (139 ≤ c ∧ c ≤ 150 ∨ c = 98 ∧ k = 70) → gI v' c k = gI m c k) ∧ gR v' = gR m ∧ ∀ a : Nat, (a : Int) < vI m 98 32 → vI v' 141 a = rwS m K a ∧ vI v' 149 a = (if vI m 125 a ≠ -1 ∧ rwS m K a = -1 then 1 else 0) ∧ vI v' 142 a = if rwS m K a = -1 then 0 else rwE m K a - rwS m K a) := by
  obtain ⟨hR, hE⟩ := h
  obtain ⟨k1, k2⟩ := hE K (by omega) hd
  obtain ⟨x, v', e, hF, hr⟩ := k2.2 v u (VD.of hR.2.2.2.1 K u hu k1 h1 h2 (fun c k hc => q c k (by unfold dE at hc; omega)))
  exact ⟨x, v', e, hF, fun c k hc => by rw [hF.1 c k (by unfold DynF; omega)]; exact q c k hc, by rw [hF.2.2]; exact g, hr⟩
theorem RAll.go {m v : qM} (h : RAll m) (hb : vI m 98 33 = 1) (q : ∀ c k, ¬ (139 ≤ c ∧ c ≤ 150 ∨ c = 98 ∧ k = 70) → gI v c k = gI m c k) (g : gR v = gR m) : RAll v := ⟨h.1.ev hb (fun c k hc => q c k (by omega)) g, h.2.ek h.1 (EK.of fun c k hc => q c k (by unfold EvD at hc; omega))⟩
theorem op_meeting (m : qM) (h : RAll m) (a u x : Int) (ha0 : -2147483648 ≤ a ∧ a < 2147483648) (hu0 : -2147483648 ≤ u ∧ u < 2147483648) (hx0 : -2147483648 ≤ x ∧ x < 2147483648) : QAll m (fX11_meeting (Zi a) (Zi u) (Zi x)) (fX13_meeting (Zi a) (Zi u) (Zi x)) := by
  have hR := h.1
  have hR' := hR
  obtain ⟨⟨hT, hRd, hRu, hFo, hHa⟩, ⟨hPt, hPf, hAp, hWk⟩, ⟨hAs, hPa, hCl, hDi, hBi, hCn⟩, ⟨hTe, hBe, hNo, hPo⟩⟩ := hR'
  have b1 := hBe.1
  have b2 := hBe.2.1
  have bf : bI false = 0 := rfl
  have btr : bI true = 1 := rfl
  have n32 : 0 ≤ vI m 98 32 ∧ vI m 98 32 ≤ 40 := ⟨hAs.2.1, hAs.2.2.1⟩
  have n52 : 0 ≤ vI m 98 52 ∧ vI m 98 52 ≤ 80 := ⟨hTe.2.1, hTe.2.2.1⟩
  have iC := isAskC m hAs a ha0
  have iM := isAskM m n32 a ha0
  have mC := mR_s u hu0 m
  have mM := mM_s u hu0 m
  have wC := within_s x 0 3 (by omega) m
  have wM := in_s x 0 3 (by omega) m
  by_cases g1 : (0 ≤ a ∧ a < vI m 98 32) ∧ (0 ≤ u ∧ u ≤ 799) ∧ 0 ≤ x ∧ x ≤ 3
  · obtain ⟨g1, g2, g3⟩ := g1
    rw [decide_eq_true g1] at iC iM
    rw [decide_eq_true g2] at mC mM
    rw [decide_eq_true g3] at wC wM
    obtain ⟨n, rfl⟩ : ∃ n : Nat, a = n := ⟨a.toNat, by omega⟩
    have hlc := laidC m hAs n g1.2
    have hlm := meetM m b2 n (by omega)
    by_cases gb : vI m 98 33 = 1
    · rw [decide_eq_true gb, Bool.true_and] at hlm
      cases hl : isLd (vI m) n
      · rw [hl] at hlc hlm
        refine QOp.all h (QOp.same (x := Zi (-4)) hR ?_ ?_)
        · rw [fX11_meeting_d]
          simp (disch := omega) only [fX11_meeting_0, fX11_meeting_13, fX11_meeting_23, qbI_s, qbL_s, qbV_s, qbR_s, qbR_n, qbN_s, qbN_n, qbIX_s, qbIX_n, qbVX_s, qbVX_n, cond_true, cond_false, cond_dec, jadd, jsub, jmul, jneg, li_0, li_1, li_2, li_3, li_4, li_5, li_6, li_7, li_8, li_9, li_10, li_14, li_15, li_16, li_19, li_20, li_24, li_30, li_31, li_32, li_39, li_40, li_48, li_57, li_59, li_60, li_63, li_65, li_80, li_81, li_90, li_97, li_99, li_100, li_122, li_126, li_127, li_150, li_160, li_200, li_225, li_255, li_400, li_799, li_800, li_999, li_2400, li_3239, li_3240, li_1048575, li_1431655765, li_858993459, li_252645135, eqb_j, ltb_j, leb_j, inb_j, ix_j, ix_n, nz_b, nz_0, nz_1, eqb_b, bnot, vI_ne, vI_eq, gIL, gLI, gIR, gRI, gLR, gRL, Int.reduceLT, Int.reduceLE, Int.reduceEq, Int.reduceAdd, Int.reduceSub, Int.reduceMul, Int.reduceNeg, Int.reduceToNat, Nat.reduceEqDiff, reduceIte, if_neg, if_pos, gI_ne, iC, mC, wC, gIv 0, b1, gb, hlc, bf, btr, show (-4 : Int32) = Zi (-4) from rfl]
        · rw [fX13_meeting_d]
          simp (disch := omega) only [fX13_meeting_0, fX13_meeting_14, qbI_s, qbL_s, qbV_s, qbR_s, qbR_n, qbN_s, qbN_n, qbIX_s, qbIX_n, qbVX_s, qbVX_n, cond_true, cond_false, cond_dec, jadd, jsub, jmul, jneg, li_0, li_1, li_2, li_3, li_4, li_5, li_6, li_7, li_8, li_9, li_10, li_14, li_15, li_16, li_19, li_20, li_24, li_30, li_31, li_32, li_39, li_40, li_48, li_57, li_59, li_60, li_63, li_65, li_80, li_81, li_90, li_97, li_99, li_100, li_122, li_126, li_127, li_150, li_160, li_200, li_225, li_255, li_400, li_799, li_800, li_999, li_2400, li_3239, li_3240, li_1048575, li_1431655765, li_858993459, li_252645135, eqb_j, ltb_j, leb_j, inb_j, ix_j, ix_n, nz_b, nz_0, nz_1, eqb_b, bnot, vI_ne, vI_eq, gIL, gLI, gIR, gRI, gLR, gRL, Int.reduceLT, Int.reduceLE, Int.reduceEq, Int.reduceAdd, Int.reduceSub, Int.reduceMul, Int.reduceNeg, Int.reduceToNat, Nat.reduceEqDiff, reduceIte, if_neg, if_pos, gI_ne, ll_0, ll_1, ll_3, ll_5, ll_9, ll_10, ll_13, ll_14, ll_19, ll_20, ll_32, ll_60, ll_126, ll_799, ll_1024, ll_1048576, ll_67108864, Zladd, Zlsub, Zlmul, Zlneg, toL, lg_lt, lg_gt, lg_le, iM, mM, wM, hlm, bf, btr, show (-4 : Int32) = Zi (-4) from rfl]
      · rw [hl] at hlc hlm
        have hl' : vI m 125 n ≠ -1 := of_decide_eq_true hl
        obtain ⟨K, k1, k2, k3, k4, k5⟩ := known_s hTe u g2
        obtain ⟨x1, m1, e1, F1, A1, d1, -⟩ := ready_s h gb K k2 k3
        have q1 : ∀ c k, ¬ (80 ≤ c ∧ c ≤ 92) → gI m1 c k = gI m c k := fun c k hc => F1.1 c k hc
        have v1 : ∀ c k, ¬ (80 ≤ c ∧ c ≤ 92) → vI m1 c k = vI m c k := fun c k hc => vI_of (q1 c k hc)
        have gb1 : vI m1 98 33 = 1 := by rw [v1 98 33 (by omega)]; exact gb
        obtain ⟨x2, m2, e2, F2, q2, gR2, r2⟩ := go_s (v := m1) A1 gb1 K k2 d1 u (by omega) (fun k hk => by rw [v1 134 k (by omega)]; exact k4 k hk) (by rw [v1 98 52 (by omega), v1 134 K (by omega)]; exact k5) (fun c k _ => rfl) rfl
        have A2 := RAll.go A1 gb1 q2 gR2
        have r2' := r2 n (by rw [v1 98 32 (by omega)]; exact g1.2)
        rw [v1 125 n (by omega)] at r2'
        obtain ⟨-, k7⟩ := A1.2 K (by omega) d1
        have k8 := k7.1 n (by rw [v1 98 32 (by omega)]; exact g1.2)
        have n40 : n < 40 := by omega
        have sO := startOf_s m1 K n k2 n40
        have pO := stopOf_s m1 K n k2 n40
        have iM1 : fX13_isAsk (Zi n) m1 = some (Zi 1, m1) := by
          rw [isAskM m1 (by rw [v1 98 32 (by omega)]; exact n32) n ha0, v1 98 32 (by omega), decide_eq_true g1]
          rfl
        have mM1 : fX13_isMinute (Zi u) m1 = some (Zi 1, m1) := by
          rw [mM_s u hu0 m1, decide_eq_true g2]
          rfl
        have wM1 : fX13_in (Zl x) (Zl 0) (Zl 3) m1 = some (Zi 1, m1) := by
          rw [in_s x 0 3 (by omega) m1, decide_eq_true g3]
          rfl
        have hlm1 : fX13_isMeeting (Zi n) m1 = some (Zi 1, m1) := by
          rw [meetM m1 (Or.inr gb1) n (by omega), decide_eq_true gb1]
          unfold isLd
          rw [v1 125 n (by omega), decide_eq_true hl']
          rfl
        generalize rwS m1 K n = S at *
        generalize rwE m1 K n = E at *
        obtain ⟨r3, r4, r5⟩ := r2'
        rcases (show x = 0 ∨ x = 1 ∨ x = 2 ∨ x = 3 by omega) with gx | gx | gx | gx
        · subst gx
          refine ⟨Zi S, m1, m2, ?_, ?_, A2⟩
          · rw [fX11_meeting_d]
            simp (disch := omega) only [fX11_meeting_0, qbI_s, qbL_s, qbV_s, qbR_s, qbR_n, qbN_s, qbN_n, qbIX_s, qbIX_n, qbVX_s, qbVX_n, cond_true, cond_false, cond_dec, jadd, jsub, jmul, jneg, li_0, li_1, li_2, li_3, li_4, li_5, li_6, li_7, li_8, li_9, li_10, li_14, li_15, li_16, li_19, li_20, li_24, li_30, li_31, li_32, li_39, li_40, li_48, li_57, li_59, li_60, li_63, li_65, li_80, li_81, li_90, li_97, li_99, li_100, li_122, li_126, li_127, li_150, li_160, li_200, li_225, li_255, li_400, li_799, li_800, li_999, li_2400, li_3239, li_3240, li_1048575, li_1431655765, li_858993459, li_252645135, eqb_j, ltb_j, leb_j, inb_j, ix_j, ix_n, nz_b, nz_0, nz_1, eqb_b, bnot, vI_ne, vI_eq, gIL, gLI, gIR, gRI, gLR, gRL, Int.reduceLT, Int.reduceLE, Int.reduceEq, Int.reduceAdd, Int.reduceSub, Int.reduceMul, Int.reduceNeg, Int.reduceToNat, Nat.reduceEqDiff, reduceIte, if_neg, if_pos, gI_ne, iC, mC, wC, gIv 0, b1, gb, hlc, btr, k1, e1, sO, pO]
          · rw [fX13_meeting_d]
            simp (disch := omega) only [fX13_meeting_0, qbI_s, qbL_s, qbV_s, qbR_s, qbR_n, qbN_s, qbN_n, qbIX_s, qbIX_n, qbVX_s, qbVX_n, cond_true, cond_false, cond_dec, jadd, jsub, jmul, jneg, li_0, li_1, li_2, li_3, li_4, li_5, li_6, li_7, li_8, li_9, li_10, li_14, li_15, li_16, li_19, li_20, li_24, li_30, li_31, li_32, li_39, li_40, li_48, li_57, li_59, li_60, li_63, li_65, li_80, li_81, li_90, li_97, li_99, li_100, li_122, li_126, li_127, li_150, li_160, li_200, li_225, li_255, li_400, li_799, li_800, li_999, li_2400, li_3239, li_3240, li_1048575, li_1431655765, li_858993459, li_252645135, eqb_j, ltb_j, leb_j, inb_j, ix_j, ix_n, nz_b, nz_0, nz_1, eqb_b, bnot, vI_ne, vI_eq, gIL, gLI, gIR, gRI, gLR, gRL, Int.reduceLT, Int.reduceLE, Int.reduceEq, Int.reduceAdd, Int.reduceSub, Int.reduceMul, Int.reduceNeg, Int.reduceToNat, Nat.reduceEqDiff, reduceIte, if_neg, if_pos, gI_ne, ll_0, ll_1, ll_3, ll_5, ll_9, ll_10, ll_13, ll_14, ll_19, ll_20, ll_32, ll_60, ll_126, ll_799, ll_1024, ll_1048576, ll_67108864, Zladd, Zlsub, Zlmul, Zlneg, toL, lg_lt, lg_gt, lg_le, iM1, mM1, wM1, hlm1, e2, gIv 141, r3]
        · subst gx
          refine ⟨Zi E, m1, m2, ?_, ?_, A2⟩
          · rw [fX11_meeting_d]
            simp (disch := omega) only [fX11_meeting_0, qbI_s, qbL_s, qbV_s, qbR_s, qbR_n, qbN_s, qbN_n, qbIX_s, qbIX_n, qbVX_s, qbVX_n, cond_true, cond_false, cond_dec, jadd, jsub, jmul, jneg, li_0, li_1, li_2, li_3, li_4, li_5, li_6, li_7, li_8, li_9, li_10, li_14, li_15, li_16, li_19, li_20, li_24, li_30, li_31, li_32, li_39, li_40, li_48, li_57, li_59, li_60, li_63, li_65, li_80, li_81, li_90, li_97, li_99, li_100, li_122, li_126, li_127, li_150, li_160, li_200, li_225, li_255, li_400, li_799, li_800, li_999, li_2400, li_3239, li_3240, li_1048575, li_1431655765, li_858993459, li_252645135, eqb_j, ltb_j, leb_j, inb_j, ix_j, ix_n, nz_b, nz_0, nz_1, eqb_b, bnot, vI_ne, vI_eq, gIL, gLI, gIR, gRI, gLR, gRL, Int.reduceLT, Int.reduceLE, Int.reduceEq, Int.reduceAdd, Int.reduceSub, Int.reduceMul, Int.reduceNeg, Int.reduceToNat, Nat.reduceEqDiff, reduceIte, if_neg, if_pos, gI_ne, iC, mC, wC, gIv 0, b1, gb, hlc, btr, k1, e1, sO, pO]
          · rw [fX13_meeting_d]
            by_cases gs : S = -1
            · rw [if_pos ⟨hl', gs⟩] at r4
              rw [k8.2.2.1 gs]
              simp (disch := omega) only [fX13_meeting_0, fX13_meeting_48, qbI_s, qbL_s, qbV_s, qbR_s, qbR_n, qbN_s, qbN_n, qbIX_s, qbIX_n, qbVX_s, qbVX_n, cond_true, cond_false, cond_dec, jadd, jsub, jmul, jneg, li_0, li_1, li_2, li_3, li_4, li_5, li_6, li_7, li_8, li_9, li_10, li_14, li_15, li_16, li_19, li_20, li_24, li_30, li_31, li_32, li_39, li_40, li_48, li_57, li_59, li_60, li_63, li_65, li_80, li_81, li_90, li_97, li_99, li_100, li_122, li_126, li_127, li_150, li_160, li_200, li_225, li_255, li_400, li_799, li_800, li_999, li_2400, li_3239, li_3240, li_1048575, li_1431655765, li_858993459, li_252645135, eqb_j, ltb_j, leb_j, inb_j, ix_j, ix_n, nz_b, nz_0, nz_1, eqb_b, bnot, vI_ne, vI_eq, gIL, gLI, gIR, gRI, gLR, gRL, Int.reduceLT, Int.reduceLE, Int.reduceEq, Int.reduceAdd, Int.reduceSub, Int.reduceMul, Int.reduceNeg, Int.reduceToNat, Nat.reduceEqDiff, reduceIte, if_neg, if_pos, gI_ne, ll_0, ll_1, ll_3, ll_5, ll_9, ll_10, ll_13, ll_14, ll_19, ll_20, ll_32, ll_60, ll_126, ll_799, ll_1024, ll_1048576, ll_67108864, Zladd, Zlsub, Zlmul, Zlneg, toL, lg_lt, lg_gt, lg_le, iM1, mM1, wM1, hlm1, e2, gIv 149, r4, show (-1 : Int32) = Zi (-1) from rfl]
            · rw [if_neg (fun z => gs z.2)] at r4
              rw [if_neg gs] at r5
              simp (disch := omega) only [fX13_meeting_0, fX13_meeting_48, qbI_s, qbL_s, qbV_s, qbR_s, qbR_n, qbN_s, qbN_n, qbIX_s, qbIX_n, qbVX_s, qbVX_n, cond_true, cond_false, cond_dec, jadd, jsub, jmul, jneg, li_0, li_1, li_2, li_3, li_4, li_5, li_6, li_7, li_8, li_9, li_10, li_14, li_15, li_16, li_19, li_20, li_24, li_30, li_31, li_32, li_39, li_40, li_48, li_57, li_59, li_60, li_63, li_65, li_80, li_81, li_90, li_97, li_99, li_100, li_122, li_126, li_127, li_150, li_160, li_200, li_225, li_255, li_400, li_799, li_800, li_999, li_2400, li_3239, li_3240, li_1048575, li_1431655765, li_858993459, li_252645135, eqb_j, ltb_j, leb_j, inb_j, ix_j, ix_n, nz_b, nz_0, nz_1, eqb_b, bnot, vI_ne, vI_eq, gIL, gLI, gIR, gRI, gLR, gRL, Int.reduceLT, Int.reduceLE, Int.reduceEq, Int.reduceAdd, Int.reduceSub, Int.reduceMul, Int.reduceNeg, Int.reduceToNat, Nat.reduceEqDiff, reduceIte, if_neg, if_pos, gI_ne, ll_0, ll_1, ll_3, ll_5, ll_9, ll_10, ll_13, ll_14, ll_19, ll_20, ll_32, ll_60, ll_126, ll_799, ll_1024, ll_1048576, ll_67108864, Zladd, Zlsub, Zlmul, Zlneg, toL, lg_lt, lg_gt, lg_le, iM1, mM1, wM1, hlm1, e2, gIv 149, r4, gIv 141, gIv 142, r3, r5]
              rw [show S + (E - S) = E by omega]
        · subst gx
          refine ⟨Zi (if S = -1 then 1 else 0), m1, m2, ?_, ?_, A2⟩
          · rw [fX11_meeting_d]
            simp (disch := omega) only [fX11_meeting_0, fX11_meeting_58, qbI_s, qbL_s, qbV_s, qbR_s, qbR_n, qbN_s, qbN_n, qbIX_s, qbIX_n, qbVX_s, qbVX_n, cond_true, cond_false, cond_dec, jadd, jsub, jmul, jneg, li_0, li_1, li_2, li_3, li_4, li_5, li_6, li_7, li_8, li_9, li_10, li_14, li_15, li_16, li_19, li_20, li_24, li_30, li_31, li_32, li_39, li_40, li_48, li_57, li_59, li_60, li_63, li_65, li_80, li_81, li_90, li_97, li_99, li_100, li_122, li_126, li_127, li_150, li_160, li_200, li_225, li_255, li_400, li_799, li_800, li_999, li_2400, li_3239, li_3240, li_1048575, li_1431655765, li_858993459, li_252645135, eqb_j, ltb_j, leb_j, inb_j, ix_j, ix_n, nz_b, nz_0, nz_1, eqb_b, bnot, vI_ne, vI_eq, gIL, gLI, gIR, gRI, gLR, gRL, Int.reduceLT, Int.reduceLE, Int.reduceEq, Int.reduceAdd, Int.reduceSub, Int.reduceMul, Int.reduceNeg, Int.reduceToNat, Nat.reduceEqDiff, reduceIte, if_neg, if_pos, gI_ne, iC, mC, wC, gIv 0, b1, gb, hlc, btr, k1, e1, sO, pO, show (-1 : Int32) = Zi (-1) from rfl]
            split <;> rfl
          · rw [fX13_meeting_d]
            by_cases gs : S = -1
            · rw [if_pos ⟨hl', gs⟩] at r4
              simp (disch := omega) only [fX13_meeting_0, fX13_meeting_57, qbI_s, qbL_s, qbV_s, qbR_s, qbR_n, qbN_s, qbN_n, qbIX_s, qbIX_n, qbVX_s, qbVX_n, cond_true, cond_false, cond_dec, jadd, jsub, jmul, jneg, li_0, li_1, li_2, li_3, li_4, li_5, li_6, li_7, li_8, li_9, li_10, li_14, li_15, li_16, li_19, li_20, li_24, li_30, li_31, li_32, li_39, li_40, li_48, li_57, li_59, li_60, li_63, li_65, li_80, li_81, li_90, li_97, li_99, li_100, li_122, li_126, li_127, li_150, li_160, li_200, li_225, li_255, li_400, li_799, li_800, li_999, li_2400, li_3239, li_3240, li_1048575, li_1431655765, li_858993459, li_252645135, eqb_j, ltb_j, leb_j, inb_j, ix_j, ix_n, nz_b, nz_0, nz_1, eqb_b, bnot, vI_ne, vI_eq, gIL, gLI, gIR, gRI, gLR, gRL, Int.reduceLT, Int.reduceLE, Int.reduceEq, Int.reduceAdd, Int.reduceSub, Int.reduceMul, Int.reduceNeg, Int.reduceToNat, Nat.reduceEqDiff, reduceIte, if_neg, if_pos, gI_ne, ll_0, ll_1, ll_3, ll_5, ll_9, ll_10, ll_13, ll_14, ll_19, ll_20, ll_32, ll_60, ll_126, ll_799, ll_1024, ll_1048576, ll_67108864, Zladd, Zlsub, Zlmul, Zlneg, toL, lg_lt, lg_gt, lg_le, iM1, mM1, wM1, hlm1, e2, gIv 149, r4]
            · rw [if_neg (fun z => gs z.2)] at r4
              simp (disch := omega) only [fX13_meeting_0, fX13_meeting_57, qbI_s, qbL_s, qbV_s, qbR_s, qbR_n, qbN_s, qbN_n, qbIX_s, qbIX_n, qbVX_s, qbVX_n, cond_true, cond_false, cond_dec, jadd, jsub, jmul, jneg, li_0, li_1, li_2, li_3, li_4, li_5, li_6, li_7, li_8, li_9, li_10, li_14, li_15, li_16, li_19, li_20, li_24, li_30, li_31, li_32, li_39, li_40, li_48, li_57, li_59, li_60, li_63, li_65, li_80, li_81, li_90, li_97, li_99, li_100, li_122, li_126, li_127, li_150, li_160, li_200, li_225, li_255, li_400, li_799, li_800, li_999, li_2400, li_3239, li_3240, li_1048575, li_1431655765, li_858993459, li_252645135, eqb_j, ltb_j, leb_j, inb_j, ix_j, ix_n, nz_b, nz_0, nz_1, eqb_b, bnot, vI_ne, vI_eq, gIL, gLI, gIR, gRI, gLR, gRL, Int.reduceLT, Int.reduceLE, Int.reduceEq, Int.reduceAdd, Int.reduceSub, Int.reduceMul, Int.reduceNeg, Int.reduceToNat, Nat.reduceEqDiff, reduceIte, if_neg, if_pos, gI_ne, ll_0, ll_1, ll_3, ll_5, ll_9, ll_10, ll_13, ll_14, ll_19, ll_20, ll_32, ll_60, ll_126, ll_799, ll_1024, ll_1048576, ll_67108864, Zladd, Zlsub, Zlmul, Zlneg, toL, lg_lt, lg_gt, lg_le, iM1, mM1, wM1, hlm1, e2, gIv 149, r4]
        · subst gx
          refine ⟨Zi (E - S), m1, m2, ?_, ?_, A2⟩
          · rw [fX11_meeting_d]
            simp (disch := omega) only [fX11_meeting_0, fX11_meeting_58, qbI_s, qbL_s, qbV_s, qbR_s, qbR_n, qbN_s, qbN_n, qbIX_s, qbIX_n, qbVX_s, qbVX_n, cond_true, cond_false, cond_dec, jadd, jsub, jmul, jneg, li_0, li_1, li_2, li_3, li_4, li_5, li_6, li_7, li_8, li_9, li_10, li_14, li_15, li_16, li_19, li_20, li_24, li_30, li_31, li_32, li_39, li_40, li_48, li_57, li_59, li_60, li_63, li_65, li_80, li_81, li_90, li_97, li_99, li_100, li_122, li_126, li_127, li_150, li_160, li_200, li_225, li_255, li_400, li_799, li_800, li_999, li_2400, li_3239, li_3240, li_1048575, li_1431655765, li_858993459, li_252645135, eqb_j, ltb_j, leb_j, inb_j, ix_j, ix_n, nz_b, nz_0, nz_1, eqb_b, bnot, vI_ne, vI_eq, gIL, gLI, gIR, gRI, gLR, gRL, Int.reduceLT, Int.reduceLE, Int.reduceEq, Int.reduceAdd, Int.reduceSub, Int.reduceMul, Int.reduceNeg, Int.reduceToNat, Nat.reduceEqDiff, reduceIte, if_neg, if_pos, gI_ne, iC, mC, wC, gIv 0, b1, gb, hlc, btr, k1, e1, sO, pO]
          · rw [fX13_meeting_d]
            by_cases gs : S = -1
            · rw [if_pos gs] at r5
              rw [gs, k8.2.2.1 gs]
              simp (disch := omega) only [fX13_meeting_0, qbI_s, qbL_s, qbV_s, qbR_s, qbR_n, qbN_s, qbN_n, qbIX_s, qbIX_n, qbVX_s, qbVX_n, cond_true, cond_false, cond_dec, jadd, jsub, jmul, jneg, li_0, li_1, li_2, li_3, li_4, li_5, li_6, li_7, li_8, li_9, li_10, li_14, li_15, li_16, li_19, li_20, li_24, li_30, li_31, li_32, li_39, li_40, li_48, li_57, li_59, li_60, li_63, li_65, li_80, li_81, li_90, li_97, li_99, li_100, li_122, li_126, li_127, li_150, li_160, li_200, li_225, li_255, li_400, li_799, li_800, li_999, li_2400, li_3239, li_3240, li_1048575, li_1431655765, li_858993459, li_252645135, eqb_j, ltb_j, leb_j, inb_j, ix_j, ix_n, nz_b, nz_0, nz_1, eqb_b, bnot, vI_ne, vI_eq, gIL, gLI, gIR, gRI, gLR, gRL, Int.reduceLT, Int.reduceLE, Int.reduceEq, Int.reduceAdd, Int.reduceSub, Int.reduceMul, Int.reduceNeg, Int.reduceToNat, Nat.reduceEqDiff, reduceIte, if_neg, if_pos, gI_ne, ll_0, ll_1, ll_3, ll_5, ll_9, ll_10, ll_13, ll_14, ll_19, ll_20, ll_32, ll_60, ll_126, ll_799, ll_1024, ll_1048576, ll_67108864, Zladd, Zlsub, Zlmul, Zlneg, toL, lg_lt, lg_gt, lg_le, iM1, mM1, wM1, hlm1, e2, gIv 142, r5]
            · rw [if_neg gs] at r5
              simp (disch := omega) only [fX13_meeting_0, qbI_s, qbL_s, qbV_s, qbR_s, qbR_n, qbN_s, qbN_n, qbIX_s, qbIX_n, qbVX_s, qbVX_n, cond_true, cond_false, cond_dec, jadd, jsub, jmul, jneg, li_0, li_1, li_2, li_3, li_4, li_5, li_6, li_7, li_8, li_9, li_10, li_14, li_15, li_16, li_19, li_20, li_24, li_30, li_31, li_32, li_39, li_40, li_48, li_57, li_59, li_60, li_63, li_65, li_80, li_81, li_90, li_97, li_99, li_100, li_122, li_126, li_127, li_150, li_160, li_200, li_225, li_255, li_400, li_799, li_800, li_999, li_2400, li_3239, li_3240, li_1048575, li_1431655765, li_858993459, li_252645135, eqb_j, ltb_j, leb_j, inb_j, ix_j, ix_n, nz_b, nz_0, nz_1, eqb_b, bnot, vI_ne, vI_eq, gIL, gLI, gIR, gRI, gLR, gRL, Int.reduceLT, Int.reduceLE, Int.reduceEq, Int.reduceAdd, Int.reduceSub, Int.reduceMul, Int.reduceNeg, Int.reduceToNat, Nat.reduceEqDiff, reduceIte, if_neg, if_pos, gI_ne, ll_0, ll_1, ll_3, ll_5, ll_9, ll_10, ll_13, ll_14, ll_19, ll_20, ll_32, ll_60, ll_126, ll_799, ll_1024, ll_1048576, ll_67108864, Zladd, Zlsub, Zlmul, Zlneg, toL, lg_lt, lg_gt, lg_le, iM1, mM1, wM1, hlm1, e2, gIv 142, r5]
    · have gb0 : vI m 98 33 = 0 := by omega
      rw [decide_eq_false gb, Bool.false_and] at hlm
      refine QOp.all h (QOp.same (x := Zi (-4)) hR ?_ ?_)
      · rw [fX11_meeting_d]
        simp (disch := omega) only [fX11_meeting_0, fX11_meeting_13, fX11_meeting_23, qbI_s, qbL_s, qbV_s, qbR_s, qbR_n, qbN_s, qbN_n, qbIX_s, qbIX_n, qbVX_s, qbVX_n, cond_true, cond_false, cond_dec, jadd, jsub, jmul, jneg, li_0, li_1, li_2, li_3, li_4, li_5, li_6, li_7, li_8, li_9, li_10, li_14, li_15, li_16, li_19, li_20, li_24, li_30, li_31, li_32, li_39, li_40, li_48, li_57, li_59, li_60, li_63, li_65, li_80, li_81, li_90, li_97, li_99, li_100, li_122, li_126, li_127, li_150, li_160, li_200, li_225, li_255, li_400, li_799, li_800, li_999, li_2400, li_3239, li_3240, li_1048575, li_1431655765, li_858993459, li_252645135, eqb_j, ltb_j, leb_j, inb_j, ix_j, ix_n, nz_b, nz_0, nz_1, eqb_b, bnot, vI_ne, vI_eq, gIL, gLI, gIR, gRI, gLR, gRL, Int.reduceLT, Int.reduceLE, Int.reduceEq, Int.reduceAdd, Int.reduceSub, Int.reduceMul, Int.reduceNeg, Int.reduceToNat, Nat.reduceEqDiff, reduceIte, if_neg, if_pos, gI_ne, iC, mC, wC, gIv 0, b1, gb0, btr, show (-4 : Int32) = Zi (-4) from rfl]
      · rw [fX13_meeting_d]
        simp (disch := omega) only [fX13_meeting_0, fX13_meeting_14, qbI_s, qbL_s, qbV_s, qbR_s, qbR_n, qbN_s, qbN_n, qbIX_s, qbIX_n, qbVX_s, qbVX_n, cond_true, cond_false, cond_dec, jadd, jsub, jmul, jneg, li_0, li_1, li_2, li_3, li_4, li_5, li_6, li_7, li_8, li_9, li_10, li_14, li_15, li_16, li_19, li_20, li_24, li_30, li_31, li_32, li_39, li_40, li_48, li_57, li_59, li_60, li_63, li_65, li_80, li_81, li_90, li_97, li_99, li_100, li_122, li_126, li_127, li_150, li_160, li_200, li_225, li_255, li_400, li_799, li_800, li_999, li_2400, li_3239, li_3240, li_1048575, li_1431655765, li_858993459, li_252645135, eqb_j, ltb_j, leb_j, inb_j, ix_j, ix_n, nz_b, nz_0, nz_1, eqb_b, bnot, vI_ne, vI_eq, gIL, gLI, gIR, gRI, gLR, gRL, Int.reduceLT, Int.reduceLE, Int.reduceEq, Int.reduceAdd, Int.reduceSub, Int.reduceMul, Int.reduceNeg, Int.reduceToNat, Nat.reduceEqDiff, reduceIte, if_neg, if_pos, gI_ne, ll_0, ll_1, ll_3, ll_5, ll_9, ll_10, ll_13, ll_14, ll_19, ll_20, ll_32, ll_60, ll_126, ll_799, ll_1024, ll_1048576, ll_67108864, Zladd, Zlsub, Zlmul, Zlneg, toL, lg_lt, lg_gt, lg_le, iM, mM, wM, hlm, bf, btr, show (-4 : Int32) = Zi (-4) from rfl]
  · refine QOp.all h (QOp.same (x := Zi (-2)) hR ?_ ?_)
    · rw [fX11_meeting_d]
      by_cases c1 : 0 ≤ a ∧ a < vI m 98 32
      · rw [decide_eq_true c1] at iC
        by_cases c2 : 0 ≤ u ∧ u ≤ 799
        · rw [decide_eq_true c2] at mC
          rw [decide_eq_false (fun z => g1 ⟨c1, c2, z⟩)] at wC
          simp (disch := omega) only [fX11_meeting_0, fX11_meeting_13, qbI_s, qbL_s, qbV_s, qbR_s, qbR_n, qbN_s, qbN_n, qbIX_s, qbIX_n, qbVX_s, qbVX_n, cond_true, cond_false, cond_dec, jadd, jsub, jmul, jneg, li_0, li_1, li_2, li_3, li_4, li_5, li_6, li_7, li_8, li_9, li_10, li_14, li_15, li_16, li_19, li_20, li_24, li_30, li_31, li_32, li_39, li_40, li_48, li_57, li_59, li_60, li_63, li_65, li_80, li_81, li_90, li_97, li_99, li_100, li_122, li_126, li_127, li_150, li_160, li_200, li_225, li_255, li_400, li_799, li_800, li_999, li_2400, li_3239, li_3240, li_1048575, li_1431655765, li_858993459, li_252645135, eqb_j, ltb_j, leb_j, inb_j, ix_j, ix_n, nz_b, nz_0, nz_1, eqb_b, bnot, vI_ne, vI_eq, gIL, gLI, gIR, gRI, gLR, gRL, Int.reduceLT, Int.reduceLE, Int.reduceEq, Int.reduceAdd, Int.reduceSub, Int.reduceMul, Int.reduceNeg, Int.reduceToNat, Nat.reduceEqDiff, reduceIte, if_neg, if_pos, gI_ne, iC, mC, wC, bf, btr, show (-2 : Int32) = Zi (-2) from rfl]
        · rw [decide_eq_false c2] at mC
          simp (disch := omega) only [fX11_meeting_0, fX11_meeting_13, qbI_s, qbL_s, qbV_s, qbR_s, qbR_n, qbN_s, qbN_n, qbIX_s, qbIX_n, qbVX_s, qbVX_n, cond_true, cond_false, cond_dec, jadd, jsub, jmul, jneg, li_0, li_1, li_2, li_3, li_4, li_5, li_6, li_7, li_8, li_9, li_10, li_14, li_15, li_16, li_19, li_20, li_24, li_30, li_31, li_32, li_39, li_40, li_48, li_57, li_59, li_60, li_63, li_65, li_80, li_81, li_90, li_97, li_99, li_100, li_122, li_126, li_127, li_150, li_160, li_200, li_225, li_255, li_400, li_799, li_800, li_999, li_2400, li_3239, li_3240, li_1048575, li_1431655765, li_858993459, li_252645135, eqb_j, ltb_j, leb_j, inb_j, ix_j, ix_n, nz_b, nz_0, nz_1, eqb_b, bnot, vI_ne, vI_eq, gIL, gLI, gIR, gRI, gLR, gRL, Int.reduceLT, Int.reduceLE, Int.reduceEq, Int.reduceAdd, Int.reduceSub, Int.reduceMul, Int.reduceNeg, Int.reduceToNat, Nat.reduceEqDiff, reduceIte, if_neg, if_pos, gI_ne, iC, mC, bf, btr, show (-2 : Int32) = Zi (-2) from rfl]
      · rw [decide_eq_false c1] at iC
        simp (disch := omega) only [fX11_meeting_0, fX11_meeting_13, qbI_s, qbL_s, qbV_s, qbR_s, qbR_n, qbN_s, qbN_n, qbIX_s, qbIX_n, qbVX_s, qbVX_n, cond_true, cond_false, cond_dec, jadd, jsub, jmul, jneg, li_0, li_1, li_2, li_3, li_4, li_5, li_6, li_7, li_8, li_9, li_10, li_14, li_15, li_16, li_19, li_20, li_24, li_30, li_31, li_32, li_39, li_40, li_48, li_57, li_59, li_60, li_63, li_65, li_80, li_81, li_90, li_97, li_99, li_100, li_122, li_126, li_127, li_150, li_160, li_200, li_225, li_255, li_400, li_799, li_800, li_999, li_2400, li_3239, li_3240, li_1048575, li_1431655765, li_858993459, li_252645135, eqb_j, ltb_j, leb_j, inb_j, ix_j, ix_n, nz_b, nz_0, nz_1, eqb_b, bnot, vI_ne, vI_eq, gIL, gLI, gIR, gRI, gLR, gRL, Int.reduceLT, Int.reduceLE, Int.reduceEq, Int.reduceAdd, Int.reduceSub, Int.reduceMul, Int.reduceNeg, Int.reduceToNat, Nat.reduceEqDiff, reduceIte, if_neg, if_pos, gI_ne, iC, bf, btr, show (-2 : Int32) = Zi (-2) from rfl]
    · rw [fX13_meeting_d]
      by_cases c1 : 0 ≤ a ∧ a < vI m 98 32
      · rw [decide_eq_true c1] at iM
        by_cases c2 : 0 ≤ u ∧ u ≤ 799
        · rw [decide_eq_true c2] at mM
          rw [decide_eq_false (fun z => g1 ⟨c1, c2, z⟩)] at wM
          simp (disch := omega) only [fX13_meeting_0, fX13_meeting_14, qbI_s, qbL_s, qbV_s, qbR_s, qbR_n, qbN_s, qbN_n, qbIX_s, qbIX_n, qbVX_s, qbVX_n, cond_true, cond_false, cond_dec, jadd, jsub, jmul, jneg, li_0, li_1, li_2, li_3, li_4, li_5, li_6, li_7, li_8, li_9, li_10, li_14, li_15, li_16, li_19, li_20, li_24, li_30, li_31, li_32, li_39, li_40, li_48, li_57, li_59, li_60, li_63, li_65, li_80, li_81, li_90, li_97, li_99, li_100, li_122, li_126, li_127, li_150, li_160, li_200, li_225, li_255, li_400, li_799, li_800, li_999, li_2400, li_3239, li_3240, li_1048575, li_1431655765, li_858993459, li_252645135, eqb_j, ltb_j, leb_j, inb_j, ix_j, ix_n, nz_b, nz_0, nz_1, eqb_b, bnot, vI_ne, vI_eq, gIL, gLI, gIR, gRI, gLR, gRL, Int.reduceLT, Int.reduceLE, Int.reduceEq, Int.reduceAdd, Int.reduceSub, Int.reduceMul, Int.reduceNeg, Int.reduceToNat, Nat.reduceEqDiff, reduceIte, if_neg, if_pos, gI_ne, ll_0, ll_1, ll_3, ll_5, ll_9, ll_10, ll_13, ll_14, ll_19, ll_20, ll_32, ll_60, ll_126, ll_799, ll_1024, ll_1048576, ll_67108864, Zladd, Zlsub, Zlmul, Zlneg, toL, lg_lt, lg_gt, lg_le, iM, mM, wM, bf, btr, show (-2 : Int32) = Zi (-2) from rfl]
        · rw [decide_eq_false c2] at mM
          simp (disch := omega) only [fX13_meeting_0, fX13_meeting_14, qbI_s, qbL_s, qbV_s, qbR_s, qbR_n, qbN_s, qbN_n, qbIX_s, qbIX_n, qbVX_s, qbVX_n, cond_true, cond_false, cond_dec, jadd, jsub, jmul, jneg, li_0, li_1, li_2, li_3, li_4, li_5, li_6, li_7, li_8, li_9, li_10, li_14, li_15, li_16, li_19, li_20, li_24, li_30, li_31, li_32, li_39, li_40, li_48, li_57, li_59, li_60, li_63, li_65, li_80, li_81, li_90, li_97, li_99, li_100, li_122, li_126, li_127, li_150, li_160, li_200, li_225, li_255, li_400, li_799, li_800, li_999, li_2400, li_3239, li_3240, li_1048575, li_1431655765, li_858993459, li_252645135, eqb_j, ltb_j, leb_j, inb_j, ix_j, ix_n, nz_b, nz_0, nz_1, eqb_b, bnot, vI_ne, vI_eq, gIL, gLI, gIR, gRI, gLR, gRL, Int.reduceLT, Int.reduceLE, Int.reduceEq, Int.reduceAdd, Int.reduceSub, Int.reduceMul, Int.reduceNeg, Int.reduceToNat, Nat.reduceEqDiff, reduceIte, if_neg, if_pos, gI_ne, ll_0, ll_1, ll_3, ll_5, ll_9, ll_10, ll_13, ll_14, ll_19, ll_20, ll_32, ll_60, ll_126, ll_799, ll_1024, ll_1048576, ll_67108864, Zladd, Zlsub, Zlmul, Zlneg, toL, lg_lt, lg_gt, lg_le, iM, mM, bf, btr, show (-2 : Int32) = Zi (-2) from rfl]
      · rw [decide_eq_false c1] at iM
        simp (disch := omega) only [fX13_meeting_0, fX13_meeting_14, qbI_s, qbL_s, qbV_s, qbR_s, qbR_n, qbN_s, qbN_n, qbIX_s, qbIX_n, qbVX_s, qbVX_n, cond_true, cond_false, cond_dec, jadd, jsub, jmul, jneg, li_0, li_1, li_2, li_3, li_4, li_5, li_6, li_7, li_8, li_9, li_10, li_14, li_15, li_16, li_19, li_20, li_24, li_30, li_31, li_32, li_39, li_40, li_48, li_57, li_59, li_60, li_63, li_65, li_80, li_81, li_90, li_97, li_99, li_100, li_122, li_126, li_127, li_150, li_160, li_200, li_225, li_255, li_400, li_799, li_800, li_999, li_2400, li_3239, li_3240, li_1048575, li_1431655765, li_858993459, li_252645135, eqb_j, ltb_j, leb_j, inb_j, ix_j, ix_n, nz_b, nz_0, nz_1, eqb_b, bnot, vI_ne, vI_eq, gIL, gLI, gIR, gRI, gLR, gRL, Int.reduceLT, Int.reduceLE, Int.reduceEq, Int.reduceAdd, Int.reduceSub, Int.reduceMul, Int.reduceNeg, Int.reduceToNat, Nat.reduceEqDiff, reduceIte, if_neg, if_pos, gI_ne, ll_0, ll_1, ll_3, ll_5, ll_9, ll_10, ll_13, ll_14, ll_19, ll_20, ll_32, ll_60, ll_126, ll_799, ll_1024, ll_1048576, ll_67108864, Zladd, Zlsub, Zlmul, Zlneg, toL, lg_lt, lg_gt, lg_le, iM, bf, btr, show (-2 : Int32) = Zi (-2) from rfl]
