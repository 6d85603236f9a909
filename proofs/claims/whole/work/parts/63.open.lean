/-! the class's plan, against any data d (by program) -/
def CRule (m : qM) (d : Nat → Nat → Int) : Prop := (∀ k, k < 6 → vI m 5 k = d 99 k) ∧ (1 ≤ d 99 0 ∧ d 99 0 ≤ 30) ∧ (0 ≤ d 99 1 ∧ d 99 1 ≤ 20) ∧ (0 ≤ d 99 2 ∧ d 99 2 ≤ 20) ∧ (0 ≤ d 99 3 ∧ d 99 3 ≤ 99) ∧ (0 ≤ d 99 4 ∧ d 99 4 ≤ 9) ∧ (0 ≤ d 99 5 ∧ d 99 5 ≤ 9)
def CPeoT (m : qM) (d : Nat → Nat → Int) : Prop := ∀ t, t < 10 → (vI m 48 t = d 112 t ∧ 0 ≤ d 112 t ∧ d 112 t ≤ 9) ∧ (vI m 49 t = d 113 t ∧ 0 ≤ d 113 t ∧ d 113 t ≤ 9) ∧ (0 ≤ d 114 t ∧ d 114 t ≤ d 115 t ∧ d 115 t ≤ 19) ∧ ∀ s : Nat, s < 32 → bt (gI m 50 t) s = decide (d 114 t ≤ s ∧ s ≤ d 115 t)
def CPeoF (m : qM) (d : Nat → Nat → Int) : Prop := ∀ f, f < 15 → (0 ≤ d 116 f ∧ d 116 f ≤ d 117 f ∧ d 117 f ≤ 19) ∧ (∀ s : Nat, s < 32 → bt (gI m 51 f) s = decide (d 116 f ≤ s ∧ s ≤ d 117 f)) ∧ (vI m 52 f = d 118 f ∧ 0 ≤ d 118 f ∧ d 118 f ≤ 3) ∧ (0 ≤ d 119 f ∧ d 119 f ≤ d 120 f ∧ d 120 f ≤ 19) ∧ (∀ s : Nat, s < 32 → bt (gI m 53 f) s = decide (d 119 f ≤ s ∧ s ≤ d 120 f)) ∧ (vI m 54 f = d 121 f ∧ 0 ≤ d 121 f ∧ d 121 f ≤ 9)
def CApart (m : qM) (d : Nat → Nat → Int) : Prop := (∀ f g, f < 15 → g < 15 → bt (gI m 55 f) g = decide (d 122 (15 * f + g) = 1) ∧ d 122 (15 * f + g) = d 122 (15 * g + f)) ∧ (∀ k, k < 225 → d 122 k = 0 ∨ d 122 k = 1) ∧ (∀ f, f < 15 → d 122 (15 * f + f) = 0)
def CWalk (m : qM) (d : Nat → Nat → Int) : Prop := ∀ t u, t < 10 → u < 10 → vI m 56 (10 * t + u) = wkV d t u ∧ vI m 57 (10 * t + u) = (wkV d t u + d 99 0 - 1) / d 99 0
def CAsk (m : qM) (d : Nat → Nat → Int) : Prop := vI m 58 11 = d 98 32 ∧ 0 ≤ d 98 32 ∧ d 98 32 ≤ 40 ∧ ∀ a : Nat, (a : Int) < d 98 32 → (vI m 59 a = d 123 a ∧ 0 ≤ d 123 a ∧ d 123 a ≤ 14) ∧ (vI m 60 a = d 124 a ∧ 0 ≤ d 124 a ∧ d 124 a ≤ 9) ∧ (vI m 61 a = d 126 a ∧ (d 126 a = 0 ∨ d 126 a = 1)) ∧ (vI m 62 a = d 125 a ∧ -1 ≤ d 125 a ∧ d 125 a ≤ 19)
def CPair (m : qM) (d : Nat → Nat → Int) : Prop := ∀ f t : Nat, f < 15 → t < 10 → (∀ a : Nat, (a : Int) < d 98 32 → d 123 a = f → d 124 a = t → vI m 63 (10 * f + t) = a) ∧ ((∀ a : Nat, (a : Int) < d 98 32 → ¬ (d 123 a = f ∧ d 124 a = t)) → vI m 63 (10 * f + t) = -1)
def CClash (m : qM) (d : Nat → Nat → Int) : Prop := ∀ a b : Nat, (a : Int) < d 98 32 → (b : Int) < d 98 32 → a ≠ b → d 125 a ≠ -1 → d 125 a = d 125 b → d 123 a ≠ d 123 b ∧ d 124 a ≠ d 124 b ∧ ¬ (0 < d 118 (d 123 a).toNat ∧ d 118 (d 123 a).toNat = d 118 (d 123 b).toNat)
def CDiary (m : qM) (d : Nat → Nat → Int) : Prop := ∀ t s : Nat, t < 10 → s < 20 → (∀ a : Nat, (a : Int) < d 98 32 → d 124 a = t → d 125 a = s → vI m 64 (20 * t + s) = a) ∧ ((∀ a : Nat, (a : Int) < d 98 32 → ¬ (d 124 a = t ∧ d 125 a = s)) → vI m 64 (20 * t + s) = -1)
def CBits (m : qM) (d : Nat → Nat → Int) : Prop := (∀ f s, f < 15 → s < 32 → bt (gI m 65 f) s = pd (laidF d f s)) ∧ (∀ t s, t < 10 → s < 32 → bt (gI m 66 t) s = pd (laidT d t s)) ∧ (∀ i s, 0 < i → i < 4 → s < 32 → bt (gI m 67 i) s = pd (laidI d i s))
def CCnt (m : qM) (d : Nat → Nat → Int) : Prop := vI m 58 12 = fb_ct (fun a => decide (d 126 a = 1)) (d 98 32).toNat ∧ vI m 58 13 = fb_ct (fun a => isLd d a) (d 98 32).toNat ∧ vI m 58 14 = fb_ct (fun a => isLd d a && decide (d 126 a = 1)) (d 98 32).toNat ∧ vI m 58 15 = fb_sm (fun f => gapN (gI m 65 f)) 15 ∧ vI m 58 16 = fb_si (fun a => ptV d a) (d 98 32).toNat
def CAll (m : qM) (d : Nat → Nat → Int) : Prop := CRule m d ∧ CPeoT m d ∧ CPeoF m d ∧ CApart m d ∧ CWalk m d ∧ CAsk m d ∧ CPair m d ∧ CClash m d ∧ CDiary m d ∧ CBits m d ∧ CCnt m d
theorem CAll.of {m : qM} (hR : R0 m) : CAll m (vI m) := by
  obtain ⟨⟨hT, hRd, hRu, hFo, hHa⟩, ⟨hPt, hPf, hAp, hWk⟩, ⟨hAs, hPa, hCl, hDi, hBi, hCn⟩, ⟨hTe, hBe, hNo, hPo⟩⟩ := hR
  exact ⟨hRu, hPt, hPf, hAp, hWk, hAs, hPa, hCl, hDi, hBi, hCn⟩
def DOk (d : Nat → Nat → Int) : Prop := ((1 ≤ d 99 0 ∧ d 99 0 ≤ 30) ∧ (0 ≤ d 99 1 ∧ d 99 1 ≤ 20) ∧ (0 ≤ d 99 2 ∧ d 99 2 ≤ 20) ∧ (0 ≤ d 99 3 ∧ d 99 3 ≤ 99) ∧ (0 ≤ d 99 4 ∧ d 99 4 ≤ 9) ∧ (0 ≤ d 99 5 ∧ d 99 5 ≤ 9)) ∧ (∀ t, t < 10 → (0 ≤ d 112 t ∧ d 112 t ≤ 9) ∧ (0 ≤ d 113 t ∧ d 113 t ≤ 9) ∧ (0 ≤ d 114 t ∧ d 114 t ≤ d 115 t ∧ d 115 t ≤ 19)) ∧ (∀ f, f < 15 → (0 ≤ d 116 f ∧ d 116 f ≤ d 117 f ∧ d 117 f ≤ 19) ∧ (0 ≤ d 118 f ∧ d 118 f ≤ 3) ∧ (0 ≤ d 119 f ∧ d 119 f ≤ d 120 f ∧ d 120 f ≤ 19) ∧ (0 ≤ d 121 f ∧ d 121 f ≤ 9)) ∧ (∀ k, k < 225 → d 122 k = 0 ∨ d 122 k = 1) ∧ 0 ≤ d 98 32 ∧ d 98 32 ≤ 40 ∧ ∀ a : Nat, (a : Int) < d 98 32 → (0 ≤ d 123 a ∧ d 123 a ≤ 14) ∧ (0 ≤ d 124 a ∧ d 124 a ≤ 9) ∧ (d 126 a = 0 ∨ d 126 a = 1) ∧ (-1 ≤ d 125 a ∧ d 125 a ≤ 19)
theorem DOk.of {m : qM} {d : Nat → Nat → Int} (hC : CAll m d) : DOk d := by
  obtain ⟨hRu, hPt, hPf, hAp, hWk, hAs, hPa, hCl, hDi, hBi, hCn⟩ := hC
  refine ⟨hRu.2, fun t ht => ?_, fun f hf => ?_, hAp.2.1, hAs.2.1, hAs.2.2.1, fun a ha => ?_⟩
  · have h := hPt t ht
    exact ⟨h.1.2, h.2.1.2, h.2.2.1⟩
  · have h := hPf f hf
    exact ⟨h.1, h.2.2.1.2, h.2.2.2.1, h.2.2.2.2.2.2⟩
  · have h := hAs.2.2.2 a ha
    exact ⟨h.1.2, h.2.1.2, h.2.2.1.2, h.2.2.2.2⟩
theorem wkD_r (d : Nat → Nat → Int) (hM : DOk d) (t u : Nat) (ht : t < 10) (hu : u < 10) : 0 ≤ wkV d t u ∧ wkV d t u ≤ 200 := by
  obtain ⟨⟨r2, r3, r4, -⟩, r5, -⟩ := hM
  have h1 := (r5 t ht).2.1
  have h2 := (r5 u hu).2.1
  have h3 : ((d 113 t - d 113 u).natAbs : Int) ≤ 9 := by omega
  have h4 : d 99 1 * ((d 113 t - d 113 u).natAbs : Int) ≤ 20 * 9 := Int.mul_le_mul r3.2 h3 (by omega) (by omega)
  have h5 : 0 ≤ d 99 1 * ((d 113 t - d 113 u).natAbs : Int) := Int.mul_nonneg r3.1 (by omega)
  unfold wkV
  split <;> omega
theorem wsD_r (d : Nat → Nat → Int) (hM : DOk d) (t u : Nat) (ht : t < 10) (hu : u < 10) : 0 ≤ wslV d t u ∧ wslV d t u ≤ 230 := by
  have h := wkD_r d hM t u ht hu
  have h2 := hM.1.1
  unfold wslV
  exact ⟨Int.ediv_nonneg (by omega) (by omega), Int.le_trans (Int.ediv_le_self _ (by omega)) (by omega)⟩
theorem toldD_s (m : qM) (d : Nat → Nat → Int) (hRu : CRule m d) (k : Nat) (hk : k < 6) : fX7_told (Zi k) m = some (Zi (d 99 k), m) := by
  rw [fX7_told_d]
  simp (disch := omega) only [fX7_told_0, fX7_told_11, qbI_s, qbL_s, qbV_s, qbR_s, qbR_n, qbN_s, qbN_n, qbIX_s, qbIX_n, qbVX_s, qbVX_n, cond_true, cond_false, cond_dec, jadd, jsub, jmul, jneg, li_0, li_1, li_2, li_3, li_4, li_5, li_6, li_7, li_8, li_9, li_10, li_14, li_15, li_16, li_19, li_20, li_24, li_30, li_31, li_32, li_39, li_40, li_48, li_57, li_59, li_60, li_63, li_65, li_80, li_81, li_90, li_97, li_99, li_100, li_122, li_126, li_127, li_150, li_160, li_200, li_225, li_255, li_400, li_799, li_800, li_999, li_2400, li_3239, li_3240, li_1048575, li_1431655765, li_858993459, li_252645135, eqb_j, ltb_j, leb_j, inb_j, ix_j, ix_n, nz_b, nz_0, nz_1, eqb_b, bnot, vI_ne, vI_eq, gIL, gLI, gIR, gRI, gLR, gRL, Int.reduceLT, Int.reduceLE, Int.reduceEq, Int.reduceAdd, Int.reduceSub, Int.reduceMul, Int.reduceNeg, Int.reduceToNat, Nat.reduceEqDiff, reduceIte, if_neg, if_pos, gI_ne, gIv 5, within_s, hRu.1 k hk]
theorem laidD (m : qM) (d : Nat → Nat → Int) (hAs : CAsk m d) (a : Nat) (h : (a : Int) < d 98 32) : fX4_isLaid (Zi a) m = some (Zi (bI (isLd d a)), m) := by
  obtain ⟨e1, e2, e3, e4⟩ := hAs
  have k4 := (e4 a h).2.2.2
  rw [fX4_isLaid_d]
  simp (disch := omega) only [fX4_isLaid_0, fX4_isLaid_9, qbI_s, qbL_s, qbV_s, qbR_s, qbR_n, qbN_s, qbN_n, qbIX_s, qbIX_n, qbVX_s, qbVX_n, cond_true, cond_false, cond_dec, jadd, jsub, jmul, jneg, li_0, li_1, li_2, li_3, li_4, li_5, li_6, li_7, li_8, li_9, li_10, li_14, li_15, li_16, li_19, li_20, li_24, li_30, li_31, li_32, li_39, li_40, li_48, li_57, li_59, li_60, li_63, li_65, li_80, li_81, li_90, li_97, li_99, li_100, li_122, li_126, li_127, li_150, li_160, li_200, li_225, li_255, li_400, li_799, li_800, li_999, li_2400, li_3239, li_3240, li_1048575, li_1431655765, li_858993459, li_252645135, eqb_j, ltb_j, leb_j, inb_j, ix_j, ix_n, nz_b, nz_0, nz_1, eqb_b, bnot, vI_ne, vI_eq, gIL, gLI, gIR, gRI, gLR, gRL, Int.reduceLT, Int.reduceLE, Int.reduceEq, Int.reduceAdd, Int.reduceSub, Int.reduceMul, Int.reduceNeg, Int.reduceToNat, Nat.reduceEqDiff, reduceIte, if_neg, if_pos, gI_ne, gIv 62, k4.1, isLd, bI_dec]
  by_cases g : d 125 a = -1
  · rw [if_pos g, if_neg (by simp [g])]
  · rw [if_neg g, if_pos g]
theorem nearW_s (m : qM) (d : Nat → Nat → Int) (hC : CAll m d) (f t : Nat) (hf : f < 15) (ht : t < 10) : ∃ x, fX4_tooNearForWalks (Zi f) (Zi t) m = some (x, m) ∧ ∀ s : Nat, s < 20 → bt x s = pd (∃ o : Nat, (o : Int) < d 98 32 ∧ d 123 o = f ∧ d 125 o ≠ -1 ∧ ((d 125 o - s).natAbs : Int) ≤ wslV d t (d 124 o).toNat) := by
  have hM := DOk.of hC
  obtain ⟨hRu, hPt, hPf, hAp, hWk, hAs, hPa, hCl, hDi, hBi, hCn⟩ := hC
  obtain ⟨e1, e2, e3, e4⟩ := hAs
  have hAs : CAsk m d := ⟨e1, e2, e3, e4⟩
  have key : ∀ (r u g : Nat) (a3 : Int32), u + r = 10 → r < g → ∃ x, fX4_tooNearForWalks_11 g (Zi f) (Zi t) a3 (Zi u) m = some (x, m) ∧ ∀ s : Nat, s < 20 → bt x s = (bt a3 s || pd (∃ o : Nat, (o : Int) < d 98 32 ∧ d 123 o = f ∧ d 125 o ≠ -1 ∧ (u : Int) ≤ d 124 o ∧ ((d 125 o - s).natAbs : Int) ≤ wslV d t (d 124 o).toNat)) := by
    intro r
    induction r with
    | zero =>
      intro u g a3 hu hg
      obtain ⟨g, rfl⟩ : ∃ g', g = g' + 1 := ⟨g - 1, by omega⟩
      simp (disch := omega) only [fX4_tooNearForWalks_11, qbI_s, qbL_s, qbV_s, qbR_s, qbR_n, qbN_s, qbN_n, qbIX_s, qbIX_n, qbVX_s, qbVX_n, cond_true, cond_false, cond_dec, jadd, jsub, jmul, jneg, li_0, li_1, li_2, li_3, li_4, li_5, li_6, li_7, li_8, li_9, li_10, li_14, li_15, li_16, li_19, li_20, li_24, li_30, li_31, li_32, li_39, li_40, li_48, li_57, li_59, li_60, li_63, li_65, li_80, li_81, li_90, li_97, li_99, li_100, li_122, li_126, li_127, li_150, li_160, li_200, li_225, li_255, li_400, li_799, li_800, li_999, li_2400, li_3239, li_3240, li_1048575, li_1431655765, li_858993459, li_252645135, eqb_j, ltb_j, leb_j, inb_j, ix_j, ix_n, nz_b, nz_0, nz_1, eqb_b, bnot, vI_ne, vI_eq, gIL, gLI, gIR, gRI, gLR, gRL, Int.reduceLT, Int.reduceLE, Int.reduceEq, Int.reduceAdd, Int.reduceSub, Int.reduceMul, Int.reduceNeg, Int.reduceToNat, Nat.reduceEqDiff, reduceIte, if_neg, if_pos, gI_ne]
      refine ⟨a3, rfl, fun s hs => ?_⟩
      rw [pd_f (fun ⟨o, h1, h2, h3, h4, h5⟩ => by have := (e4 o h1).2.1; omega), Bool.or_false]
    | succ r ih =>
      intro u g a3 hu hg
      obtain ⟨g, rfl⟩ : ∃ g', g = g' + 1 := ⟨g - 1, by omega⟩
      have i1 : ((f : Int) * 10 + u).toNat = 10 * f + u := by omega
      have i2 : ((t : Int) * 10 + u).toNat = 10 * t + u := by omega
      have hp := hPa f u hf (by omega)
      have step : ∀ s, (¬ ∃ o : Nat, (o : Int) < d 98 32 ∧ d 123 o = f ∧ d 125 o ≠ -1 ∧ d 124 o = u ∧ ((d 125 o - s).natAbs : Int) ≤ wslV d t (d 124 o).toNat) → pd (∃ o : Nat, (o : Int) < d 98 32 ∧ d 123 o = f ∧ d 125 o ≠ -1 ∧ (u : Int) ≤ d 124 o ∧ ((d 125 o - s).natAbs : Int) ≤ wslV d t (d 124 o).toNat) = pd (∃ o : Nat, (o : Int) < d 98 32 ∧ d 123 o = f ∧ d 125 o ≠ -1 ∧ ((u + 1 : Nat) : Int) ≤ d 124 o ∧ ((d 125 o - s).natAbs : Int) ≤ wslV d t (d 124 o).toNat) := fun s hn => by
        rw [Bool.eq_iff_iff, pd_iff, pd_iff]
        constructor
        · rintro ⟨o, h1, h2, h3, h4, h5⟩
          by_cases e : d 124 o = u
          · exact absurd ⟨o, h1, h2, h3, e, h5⟩ hn
          · exact ⟨o, h1, h2, h3, by omega, h5⟩
        · rintro ⟨o, h1, h2, h3, h4, h5⟩
          exact ⟨o, h1, h2, h3, by omega, h5⟩
      obtain ⟨x, ih1, ih2⟩ := ih (u + 1) g a3 (by omega) (by omega)
      by_cases hex : ∃ o : Nat, (o : Int) < d 98 32 ∧ d 123 o = f ∧ d 124 o = u
      · obtain ⟨o, h1, h2, h3⟩ := hex
        have hpo := hp.1 o h1 h2 h3
        obtain ⟨k1, k2, k3, k4⟩ := e4 o h1
        have hlc := laidD m d hAs o h1
        have only : ∀ o2 : Nat, (o2 : Int) < d 98 32 → d 123 o2 = f → d 124 o2 = u → o2 = o := fun o2 g1 g2 g3 => by
          have := hp.1 o2 g1 g2 g3
          omega
        by_cases hl : d 125 o = -1
        · refine ⟨x, ?_, fun s hs => ?_⟩
          · rw [← ih1]
            rw [show isLd d o = false from decide_eq_false (fun z => z hl)] at hlc
            simp (disch := omega) only [fX4_tooNearForWalks_11, fX4_tooNearForWalks_48, fX4_askOf_d, fX4_askOf_0, qbI_s, qbL_s, qbV_s, qbR_s, qbR_n, qbN_s, qbN_n, qbIX_s, qbIX_n, qbVX_s, qbVX_n, cond_true, cond_false, cond_dec, jadd, jsub, jmul, jneg, li_0, li_1, li_2, li_3, li_4, li_5, li_6, li_7, li_8, li_9, li_10, li_14, li_15, li_16, li_19, li_20, li_24, li_30, li_31, li_32, li_39, li_40, li_48, li_57, li_59, li_60, li_63, li_65, li_80, li_81, li_90, li_97, li_99, li_100, li_122, li_126, li_127, li_150, li_160, li_200, li_225, li_255, li_400, li_799, li_800, li_999, li_2400, li_3239, li_3240, li_1048575, li_1431655765, li_858993459, li_252645135, eqb_j, ltb_j, leb_j, inb_j, ix_j, ix_n, nz_b, nz_0, nz_1, eqb_b, bnot, vI_ne, vI_eq, gIL, gLI, gIR, gRI, gLR, gRL, Int.reduceLT, Int.reduceLE, Int.reduceEq, Int.reduceAdd, Int.reduceSub, Int.reduceMul, Int.reduceNeg, Int.reduceToNat, Nat.reduceEqDiff, reduceIte, if_neg, if_pos, gI_ne, gIv 63, i1, hpo, hlc, show bI false = 0 from rfl]
            rfl
          · rw [ih2 s hs, step s (fun ⟨o2, g1, g2, g3, g4, g5⟩ => by
              have := only o2 g1 g2 g4
              subst this
              exact g3 hl)]
        · have hws := (hWk t u ht (by omega)).2
          have hwr := wsD_r d hM t u ht (by omega)
          have hwE : vI m 57 (10 * t + u) = wslV d t u := hws
          obtain ⟨y, y1, y2⟩ := slotsFrom_s (d 125 o - wslV d t u) (d 125 o + wslV d t u) (by omega) m
          obtain ⟨x, ih1, ih2⟩ := ih (u + 1) g (a3 ||| y) (by omega) (by omega)
          refine ⟨x, ?_, fun s hs => ?_⟩
          · rw [← ih1]
            rw [show isLd d o = true from decide_eq_true hl] at hlc
            simp (disch := omega) only [fX4_tooNearForWalks_11, fX4_tooNearForWalks_48, fX4_askOf_d, fX4_askOf_0, qbI_s, qbL_s, qbV_s, qbR_s, qbR_n, qbN_s, qbN_n, qbIX_s, qbIX_n, qbVX_s, qbVX_n, cond_true, cond_false, cond_dec, jadd, jsub, jmul, jneg, li_0, li_1, li_2, li_3, li_4, li_5, li_6, li_7, li_8, li_9, li_10, li_14, li_15, li_16, li_19, li_20, li_24, li_30, li_31, li_32, li_39, li_40, li_48, li_57, li_59, li_60, li_63, li_65, li_80, li_81, li_90, li_97, li_99, li_100, li_122, li_126, li_127, li_150, li_160, li_200, li_225, li_255, li_400, li_799, li_800, li_999, li_2400, li_3239, li_3240, li_1048575, li_1431655765, li_858993459, li_252645135, eqb_j, ltb_j, leb_j, inb_j, ix_j, ix_n, nz_b, nz_0, nz_1, eqb_b, bnot, vI_ne, vI_eq, gIL, gLI, gIR, gRI, gLR, gRL, Int.reduceLT, Int.reduceLE, Int.reduceEq, Int.reduceAdd, Int.reduceSub, Int.reduceMul, Int.reduceNeg, Int.reduceToNat, Nat.reduceEqDiff, reduceIte, if_neg, if_pos, gI_ne, gIv 63, i1, hpo, hlc, show bI true = 1 from rfl, fX3_walkSlots_d, fX3_walkSlots_0, gIv 57, i2, hwE, gIv 62, k4.1, y1]
            rfl
          · rw [ih2 s hs, b_or, y2 s (by omega), Bool.or_assoc]
            congr 1
            rw [Bool.eq_iff_iff, Bool.or_eq_true, decide_eq_true_eq, pd_iff, pd_iff]
            have hu9 : (u : Nat) = (d 124 o).toNat := by omega
            constructor
            · rintro (⟨g1, g2, g3⟩ | ⟨o2, g1, g2, g3, g4, g5⟩)
              · exact ⟨o, h1, h2, hl, by omega, by rw [← hu9]; omega⟩
              · exact ⟨o2, g1, g2, g3, by omega, g5⟩
            · rintro ⟨o2, g1, g2, g3, g4, g5⟩
              by_cases e : d 124 o2 = u
              · have := only o2 g1 g2 e
                subst this
                rw [← hu9] at g5
                exact Or.inl ⟨by omega, by omega, hs⟩
              · exact Or.inr ⟨o2, g1, g2, g3, by omega, g5⟩
      · have hpo := hp.2 (fun o h1 h2 => hex ⟨o, h1, h2⟩)
        refine ⟨x, ?_, fun s hs => ?_⟩
        · rw [← ih1]
          simp (disch := omega) only [fX4_tooNearForWalks_11, fX4_tooNearForWalks_48, fX4_askOf_d, fX4_askOf_0, qbI_s, qbL_s, qbV_s, qbR_s, qbR_n, qbN_s, qbN_n, qbIX_s, qbIX_n, qbVX_s, qbVX_n, cond_true, cond_false, cond_dec, jadd, jsub, jmul, jneg, li_0, li_1, li_2, li_3, li_4, li_5, li_6, li_7, li_8, li_9, li_10, li_14, li_15, li_16, li_19, li_20, li_24, li_30, li_31, li_32, li_39, li_40, li_48, li_57, li_59, li_60, li_63, li_65, li_80, li_81, li_90, li_97, li_99, li_100, li_122, li_126, li_127, li_150, li_160, li_200, li_225, li_255, li_400, li_799, li_800, li_999, li_2400, li_3239, li_3240, li_1048575, li_1431655765, li_858993459, li_252645135, eqb_j, ltb_j, leb_j, inb_j, ix_j, ix_n, nz_b, nz_0, nz_1, eqb_b, bnot, vI_ne, vI_eq, gIL, gLI, gIR, gRI, gLR, gRL, Int.reduceLT, Int.reduceLE, Int.reduceEq, Int.reduceAdd, Int.reduceSub, Int.reduceMul, Int.reduceNeg, Int.reduceToNat, Nat.reduceEqDiff, reduceIte, if_neg, if_pos, gI_ne, gIv 63, i1, hpo]
          rfl
        · rw [ih2 s hs, step s (fun ⟨o2, g1, g2, g3, g4, g5⟩ => hex ⟨o2, g1, g2, g4⟩)]
  rw [fX4_tooNearForWalks_d]
  by_cases h0 : gI m 65 f = 0
  · refine ⟨0, ?_, fun s hs => ?_⟩
    · have h0' : eqb (gI m 65 f) (Zi 0) = true := by rw [h0, eqb_d]; rfl
      simp (disch := omega) only [fX4_tooNearForWalks_0, qbI_s, qbL_s, qbV_s, qbR_s, qbR_n, qbN_s, qbN_n, qbIX_s, qbIX_n, qbVX_s, qbVX_n, cond_true, cond_false, cond_dec, jadd, jsub, jmul, jneg, li_0, li_1, li_2, li_3, li_4, li_5, li_6, li_7, li_8, li_9, li_10, li_14, li_15, li_16, li_19, li_20, li_24, li_30, li_31, li_32, li_39, li_40, li_48, li_57, li_59, li_60, li_63, li_65, li_80, li_81, li_90, li_97, li_99, li_100, li_122, li_126, li_127, li_150, li_160, li_200, li_225, li_255, li_400, li_799, li_800, li_999, li_2400, li_3239, li_3240, li_1048575, li_1431655765, li_858993459, li_252645135, eqb_j, ltb_j, leb_j, inb_j, ix_j, ix_n, nz_b, nz_0, nz_1, eqb_b, bnot, vI_ne, vI_eq, gIL, gLI, gIR, gRI, gLR, gRL, Int.reduceLT, Int.reduceLE, Int.reduceEq, Int.reduceAdd, Int.reduceSub, Int.reduceMul, Int.reduceNeg, Int.reduceToNat, Nat.reduceEqDiff, reduceIte, if_neg, if_pos, gI_ne, h0']
    · rw [b_0]
      refine (pd_f fun ⟨o, h1, h2, h3, h4⟩ => ?_).symm
      obtain ⟨k1, k2, k3, k4⟩ := e4 o h1
      have hb := hBi.1 f (d 125 o).toNat hf (by omega)
      rw [h0, b_0, pd_t ⟨o, h1, h2, by omega⟩] at hb
      cases hb
  · obtain ⟨x, k1, k2⟩ := key 10 0 FU 0 (by omega) (by rw [FU_d]; omega)
    have h0' : eqb (gI m 65 f) (Zi 0) = false := by rw [eqb_d]; exact decide_eq_false h0
    refine ⟨x, ?_, fun s hs => ?_⟩
    · rw [← k1]
      simp (disch := omega) only [fX4_tooNearForWalks_0, qbI_s, qbL_s, qbV_s, qbR_s, qbR_n, qbN_s, qbN_n, qbIX_s, qbIX_n, qbVX_s, qbVX_n, cond_true, cond_false, cond_dec, jadd, jsub, jmul, jneg, li_0, li_1, li_2, li_3, li_4, li_5, li_6, li_7, li_8, li_9, li_10, li_14, li_15, li_16, li_19, li_20, li_24, li_30, li_31, li_32, li_39, li_40, li_48, li_57, li_59, li_60, li_63, li_65, li_80, li_81, li_90, li_97, li_99, li_100, li_122, li_126, li_127, li_150, li_160, li_200, li_225, li_255, li_400, li_799, li_800, li_999, li_2400, li_3239, li_3240, li_1048575, li_1431655765, li_858993459, li_252645135, eqb_j, ltb_j, leb_j, inb_j, ix_j, ix_n, nz_b, nz_0, nz_1, eqb_b, bnot, vI_ne, vI_eq, gIL, gLI, gIR, gRI, gLR, gRL, Int.reduceLT, Int.reduceLE, Int.reduceEq, Int.reduceAdd, Int.reduceSub, Int.reduceMul, Int.reduceNeg, Int.reduceToNat, Nat.reduceEqDiff, reduceIte, if_neg, if_pos, gI_ne, h0']
      rfl
    · rw [k2 s hs, b_0, Bool.false_or, Bool.eq_iff_iff, pd_iff, pd_iff]
      constructor
      · rintro ⟨o, h1, h2, h3, h4, h5⟩
        exact ⟨o, h1, h2, h3, h5⟩
      · rintro ⟨o, h1, h2, h3, h4⟩
        exact ⟨o, h1, h2, h3, by have := (e4 o h1).2.1; omega, h4⟩
theorem nearA_s (m : qM) (d : Nat → Nat → Int) (hC : CAll m d) (f : Nat) (hf : f < 15) : ∃ x, fX4_tooNearForApart (Zi f) m = some (x, m) ∧ ∀ s : Nat, s < 20 → bt x s = pd (∃ o : Nat, (o : Int) < d 98 32 ∧ d 125 o ≠ -1 ∧ d 122 (15 * f + (d 123 o).toNat) = 1 ∧ ((d 125 o - s).natAbs : Int) ≤ d 99 5) := by
  obtain ⟨hRu, hPt, hPf, hAp, hWk, hAs, hPa, hCl, hDi, hBi, hCn⟩ := hC
  obtain ⟨e1, e2, e3, e4⟩ := hAs
  have r5 := hRu.2.2.2.2.2.2
  have t5 : fX7_told (Zi 5) m = some (Zi (d 99 5), m) := toldD_s m d hRu 5 (by omega)
  have key2 : ∀ (a2 : Int32), bt a2 31 = false → ∀ (r i g : Nat) (a3 : Int32), i + r = (d 99 5).toNat + 1 → r < g → ∃ x, fX4_tooNearForApart_27 g a2 a3 (Zi i) m = some (x, m) ∧ ∀ s : Nat, s < 20 → bt x s = (bt a3 s || pd (∃ j : Nat, i ≤ j ∧ (j : Int) ≤ d 99 5 ∧ ((j ≤ s ∧ bt a2 (s - j) = true) ∨ bt a2 (j + s) = true))) := by
    intro a2 h31 r
    induction r with
    | zero =>
      intro i g a3 hi hg
      obtain ⟨g, rfl⟩ : ∃ g', g = g' + 1 := ⟨g - 1, by omega⟩
      simp (disch := omega) only [fX4_tooNearForApart_27, qbI_s, qbL_s, qbV_s, qbR_s, qbR_n, qbN_s, qbN_n, qbIX_s, qbIX_n, qbVX_s, qbVX_n, cond_true, cond_false, cond_dec, jadd, jsub, jmul, jneg, li_0, li_1, li_2, li_3, li_4, li_5, li_6, li_7, li_8, li_9, li_10, li_14, li_15, li_16, li_19, li_20, li_24, li_30, li_31, li_32, li_39, li_40, li_48, li_57, li_59, li_60, li_63, li_65, li_80, li_81, li_90, li_97, li_99, li_100, li_122, li_126, li_127, li_150, li_160, li_200, li_225, li_255, li_400, li_799, li_800, li_999, li_2400, li_3239, li_3240, li_1048575, li_1431655765, li_858993459, li_252645135, eqb_j, ltb_j, leb_j, inb_j, ix_j, ix_n, nz_b, nz_0, nz_1, eqb_b, bnot, vI_ne, vI_eq, gIL, gLI, gIR, gRI, gLR, gRL, Int.reduceLT, Int.reduceLE, Int.reduceEq, Int.reduceAdd, Int.reduceSub, Int.reduceMul, Int.reduceNeg, Int.reduceToNat, Nat.reduceEqDiff, reduceIte, if_neg, if_pos, gI_ne, t5]
      refine ⟨a3, rfl, fun s hs => ?_⟩
      rw [pd_f (fun ⟨j, h1, h2, h3⟩ => by omega), Bool.or_false]
    | succ r ih =>
      intro i g a3 hi hg
      obtain ⟨g, rfl⟩ : ∃ g', g = g' + 1 := ⟨g - 1, by omega⟩
      obtain ⟨x, ih1, ih2⟩ := ih (i + 1) g (a3 ||| ((a2 <<< (nI i &&& 31)) ||| (a2 >>> (nI i &&& 31)))) (by omega) (by omega)
      refine ⟨x, ?_, fun s hs => ?_⟩
      · rw [← ih1]
        simp (disch := omega) only [fX4_tooNearForApart_27, qbI_s, qbL_s, qbV_s, qbR_s, qbR_n, qbN_s, qbN_n, qbIX_s, qbIX_n, qbVX_s, qbVX_n, cond_true, cond_false, cond_dec, jadd, jsub, jmul, jneg, li_0, li_1, li_2, li_3, li_4, li_5, li_6, li_7, li_8, li_9, li_10, li_14, li_15, li_16, li_19, li_20, li_24, li_30, li_31, li_32, li_39, li_40, li_48, li_57, li_59, li_60, li_63, li_65, li_80, li_81, li_90, li_97, li_99, li_100, li_122, li_126, li_127, li_150, li_160, li_200, li_225, li_255, li_400, li_799, li_800, li_999, li_2400, li_3239, li_3240, li_1048575, li_1431655765, li_858993459, li_252645135, eqb_j, ltb_j, leb_j, inb_j, ix_j, ix_n, nz_b, nz_0, nz_1, eqb_b, bnot, vI_ne, vI_eq, gIL, gLI, gIR, gRI, gLR, gRL, Int.reduceLT, Int.reduceLE, Int.reduceEq, Int.reduceAdd, Int.reduceSub, Int.reduceMul, Int.reduceNeg, Int.reduceToNat, Nat.reduceEqDiff, reduceIte, if_neg, if_pos, gI_ne, t5]
        simp only [Zn]
        rfl
      · rw [ih2 s hs, b_or, b_or, b_shl i (by omega) a2 (by omega), shr_lit a2 i (by omega) (by omega) h31, Bool.or_assoc]
        congr 1
        rw [Bool.eq_iff_iff, Bool.or_eq_true, Bool.or_eq_true, Bool.and_eq_true, decide_eq_true_eq, pd_iff, pd_iff]
        constructor
        · rintro ((h | h) | ⟨j, h1, h2, h3⟩)
          · exact ⟨i, Nat.le_refl _, by omega, Or.inl h⟩
          · exact ⟨i, Nat.le_refl _, by omega, Or.inr h⟩
          · exact ⟨j, by omega, h2, h3⟩
        · rintro ⟨j, h1, h2, h3⟩
          by_cases e : j = i
          · subst e; exact Or.inl h3
          · exact Or.inr ⟨j, by omega, h2, h3⟩
  have key1 : ∀ (k27 : Int32 → Int32 → Int32 → qM → Option (Int32 × qM)) (r u g : Nat) (a2 : Int32), u + r = 15 → r < g → ∃ x, fX4_tooNearForApart_4 k27 g (Zi f) a2 (Zi u) m = k27 x x (Zi 1) m ∧ ∀ s : Nat, s < 32 → bt x s = (bt a2 s || pd (∃ o : Nat, (o : Int) < d 98 32 ∧ (u : Int) ≤ d 123 o ∧ d 122 (15 * f + (d 123 o).toNat) = 1 ∧ d 125 o = s)) := by
    intro k27 r
    induction r with
    | zero =>
      intro u g a2 hu hg
      obtain ⟨g, rfl⟩ : ∃ g', g = g' + 1 := ⟨g - 1, by omega⟩
      simp (disch := omega) only [fX4_tooNearForApart_4, qbI_s, qbL_s, qbV_s, qbR_s, qbR_n, qbN_s, qbN_n, qbIX_s, qbIX_n, qbVX_s, qbVX_n, cond_true, cond_false, cond_dec, jadd, jsub, jmul, jneg, li_0, li_1, li_2, li_3, li_4, li_5, li_6, li_7, li_8, li_9, li_10, li_14, li_15, li_16, li_19, li_20, li_24, li_30, li_31, li_32, li_39, li_40, li_48, li_57, li_59, li_60, li_63, li_65, li_80, li_81, li_90, li_97, li_99, li_100, li_122, li_126, li_127, li_150, li_160, li_200, li_225, li_255, li_400, li_799, li_800, li_999, li_2400, li_3239, li_3240, li_1048575, li_1431655765, li_858993459, li_252645135, eqb_j, ltb_j, leb_j, inb_j, ix_j, ix_n, nz_b, nz_0, nz_1, eqb_b, bnot, vI_ne, vI_eq, gIL, gLI, gIR, gRI, gLR, gRL, Int.reduceLT, Int.reduceLE, Int.reduceEq, Int.reduceAdd, Int.reduceSub, Int.reduceMul, Int.reduceNeg, Int.reduceToNat, Nat.reduceEqDiff, reduceIte, if_neg, if_pos, gI_ne]
      refine ⟨a2, rfl, fun s hs => ?_⟩
      rw [pd_f (fun ⟨o, h1, h2, h3⟩ => by have := (e4 o h1).1; omega), Bool.or_false]
    | succ r ih =>
      intro u g a2 hu hg
      obtain ⟨g, rfl⟩ : ∃ g', g = g' + 1 := ⟨g - 1, by omega⟩
      have hb := (hAp.1 f u hf (by omega)).1
      have hh := has_s (gI m 55 f) u (by omega) m
      rw [hb] at hh
      by_cases ha : d 122 (15 * f + u) = 1
      · obtain ⟨x, ih1, ih2⟩ := ih (u + 1) g (a2 ||| gI m 65 u) (by omega) (by omega)
        rw [decide_eq_true ha] at hh
        refine ⟨x, ?_, fun s hs => ?_⟩
        · rw [← ih1]
          simp (disch := omega) only [fX4_tooNearForApart_4, fX4_tooNearForApart_21, fX3_apartFrom_d, fX3_apartFrom_0, qbI_s, qbL_s, qbV_s, qbR_s, qbR_n, qbN_s, qbN_n, qbIX_s, qbIX_n, qbVX_s, qbVX_n, cond_true, cond_false, cond_dec, jadd, jsub, jmul, jneg, li_0, li_1, li_2, li_3, li_4, li_5, li_6, li_7, li_8, li_9, li_10, li_14, li_15, li_16, li_19, li_20, li_24, li_30, li_31, li_32, li_39, li_40, li_48, li_57, li_59, li_60, li_63, li_65, li_80, li_81, li_90, li_97, li_99, li_100, li_122, li_126, li_127, li_150, li_160, li_200, li_225, li_255, li_400, li_799, li_800, li_999, li_2400, li_3239, li_3240, li_1048575, li_1431655765, li_858993459, li_252645135, eqb_j, ltb_j, leb_j, inb_j, ix_j, ix_n, nz_b, nz_0, nz_1, eqb_b, bnot, vI_ne, vI_eq, gIL, gLI, gIR, gRI, gLR, gRL, Int.reduceLT, Int.reduceLE, Int.reduceEq, Int.reduceAdd, Int.reduceSub, Int.reduceMul, Int.reduceNeg, Int.reduceToNat, Nat.reduceEqDiff, reduceIte, if_neg, if_pos, gI_ne, hh, show bI true = 1 from rfl]
          rfl
        · rw [ih2 s hs, b_or, hBi.1 u s (by omega) hs, Bool.or_assoc]
          congr 1
          rw [Bool.eq_iff_iff, Bool.or_eq_true, pd_iff, pd_iff, pd_iff]
          constructor
          · rintro (⟨o, h1, h2, h3⟩ | ⟨o, h1, h2, h3, h4⟩)
            · exact ⟨o, h1, by omega, by rw [h2, Int.toNat_natCast]; exact ha, h3⟩
            · exact ⟨o, h1, by omega, h3, h4⟩
          · rintro ⟨o, h1, h2, h3, h4⟩
            by_cases e : d 123 o = u
            · exact Or.inl ⟨o, h1, e, h4⟩
            · exact Or.inr ⟨o, h1, by omega, h3, h4⟩
      · obtain ⟨x, ih1, ih2⟩ := ih (u + 1) g a2 (by omega) (by omega)
        rw [decide_eq_false ha] at hh
        refine ⟨x, ?_, fun s hs => ?_⟩
        · rw [← ih1]
          simp (disch := omega) only [fX4_tooNearForApart_4, fX4_tooNearForApart_21, fX3_apartFrom_d, fX3_apartFrom_0, qbI_s, qbL_s, qbV_s, qbR_s, qbR_n, qbN_s, qbN_n, qbIX_s, qbIX_n, qbVX_s, qbVX_n, cond_true, cond_false, cond_dec, jadd, jsub, jmul, jneg, li_0, li_1, li_2, li_3, li_4, li_5, li_6, li_7, li_8, li_9, li_10, li_14, li_15, li_16, li_19, li_20, li_24, li_30, li_31, li_32, li_39, li_40, li_48, li_57, li_59, li_60, li_63, li_65, li_80, li_81, li_90, li_97, li_99, li_100, li_122, li_126, li_127, li_150, li_160, li_200, li_225, li_255, li_400, li_799, li_800, li_999, li_2400, li_3239, li_3240, li_1048575, li_1431655765, li_858993459, li_252645135, eqb_j, ltb_j, leb_j, inb_j, ix_j, ix_n, nz_b, nz_0, nz_1, eqb_b, bnot, vI_ne, vI_eq, gIL, gLI, gIR, gRI, gLR, gRL, Int.reduceLT, Int.reduceLE, Int.reduceEq, Int.reduceAdd, Int.reduceSub, Int.reduceMul, Int.reduceNeg, Int.reduceToNat, Nat.reduceEqDiff, reduceIte, if_neg, if_pos, gI_ne, hh, show bI false = 0 from rfl]
          rfl
        · rw [ih2 s hs]
          congr 1
          rw [Bool.eq_iff_iff, pd_iff, pd_iff]
          constructor
          · rintro ⟨o, h1, h2, h3, h4⟩
            exact ⟨o, h1, by omega, h3, h4⟩
          · rintro ⟨o, h1, h2, h3, h4⟩
            by_cases e : d 123 o = u
            · rw [e, Int.toNat_natCast] at h3; exact absurd h3 ha
            · exact ⟨o, h1, by omega, h3, h4⟩
  rw [fX4_tooNearForApart_d]
  simp only [fX4_tooNearForApart_0]
  obtain ⟨x, a1, a2⟩ := key1 (fX4_tooNearForApart_27 FU) 15 0 FU 0 (by omega) (by rw [FU_d]; omega)
  have h31 : bt x 31 = false := by
    rw [a2 31 (by omega), b_0, Bool.false_or]
    exact pd_f fun ⟨o, h1, h2, h3, h4⟩ => by have := (e4 o h1).2.2.2; omega
  obtain ⟨y, b1, b2⟩ := key2 x h31 (d 99 5).toNat 1 FU x (by omega) (by rw [FU_d]; omega)
  refine ⟨y, a1.trans b1, fun s hs => ?_⟩
  rw [b2 s hs, Bool.eq_iff_iff, Bool.or_eq_true, pd_iff, pd_iff]
  have hx : ∀ q : Nat, q < 32 → (bt x q = true ↔ ∃ o : Nat, (o : Int) < d 98 32 ∧ d 122 (15 * f + (d 123 o).toNat) = 1 ∧ d 125 o = q) := fun q hq => by
    rw [a2 q hq, b_0, Bool.false_or, pd_iff]
    constructor
    · rintro ⟨o, h1, h2, h3, h4⟩
      exact ⟨o, h1, h3, h4⟩
    · rintro ⟨o, h1, h3, h4⟩
      exact ⟨o, h1, by have := (e4 o h1).1; omega, h3, h4⟩
  constructor
  · rintro (h | ⟨j, h1, h2, ⟨h3, h4⟩ | h4⟩)
    · obtain ⟨o, h5, h6, h7⟩ := (hx s (by omega)).mp h
      exact ⟨o, h5, by omega, h6, by omega⟩
    · obtain ⟨o, h5, h6, h7⟩ := (hx (s - j) (by omega)).mp h4
      exact ⟨o, h5, by omega, h6, by omega⟩
    · obtain ⟨o, h5, h6, h7⟩ := (hx (j + s) (by omega)).mp h4
      exact ⟨o, h5, by omega, h6, by omega⟩
  · rintro ⟨o, h1, h2, h3, h4⟩
    have k4 := (e4 o h1).2.2.2
    obtain ⟨q, hq⟩ : ∃ q : Nat, d 125 o = q := ⟨(d 125 o).toNat, by omega⟩
    have hb := (hx q (by omega)).mpr ⟨o, h1, h3, hq⟩
    by_cases c1 : q = s
    · left; rw [← c1]; exact hb
    · right
      by_cases c2 : q < s
      · exact ⟨s - q, by omega, by omega, Or.inl ⟨by omega, by rw [show s - (s - q) = q by omega]; exact hb⟩⟩
      · exact ⟨q - s, by omega, by omega, Or.inr (by rw [show q - s + s = q by omega]; exact hb)⟩
theorem tiredDn (m : qM) (bits : Int32) (k34 : Int32 → Int32 → Int32 → Int32 → Int32 → qM → Option (Int32 × qM)) (x2 x4 x5 : Int32) : ∀ (n f : Nat) (row : Nat), n < f → n ≤ 20 → fX4_tooManyInARow_25 k34 f x2 bits x4 x5 (Zi row) (Zi ((n : Int) - 1)) m = k34 x2 bits x4 x5 (Zi ((row + runDn (bt bits) n : Nat) : Int)) m := by
  intro n
  induction n with
  | zero =>
    intro f row hf hn
    obtain ⟨f, rfl⟩ : ∃ f', f = f' + 1 := ⟨f - 1, by omega⟩
    simp (disch := omega) only [fX4_tooManyInARow_25, qbI_s, qbL_s, qbV_s, qbR_s, qbR_n, qbN_s, qbN_n, qbIX_s, qbIX_n, qbVX_s, qbVX_n, cond_true, cond_false, cond_dec, jadd, jsub, jmul, jneg, li_0, li_1, li_2, li_3, li_4, li_5, li_6, li_7, li_8, li_9, li_10, li_14, li_15, li_16, li_19, li_20, li_24, li_30, li_31, li_32, li_39, li_40, li_48, li_57, li_59, li_60, li_63, li_65, li_80, li_81, li_90, li_97, li_99, li_100, li_122, li_126, li_127, li_150, li_160, li_200, li_225, li_255, li_400, li_799, li_800, li_999, li_2400, li_3239, li_3240, li_1048575, li_1431655765, li_858993459, li_252645135, eqb_j, ltb_j, leb_j, inb_j, ix_j, ix_n, nz_b, nz_0, nz_1, eqb_b, bnot, vI_ne, vI_eq, gIL, gLI, gIR, gRI, gLR, gRL, Int.reduceLT, Int.reduceLE, Int.reduceEq, Int.reduceAdd, Int.reduceSub, Int.reduceMul, Int.reduceNeg, Int.reduceToNat, Nat.reduceEqDiff, reduceIte, if_neg, if_pos, gI_ne]
    rfl
  | succ n ih =>
    intro f row hf hn
    obtain ⟨f, rfl⟩ : ∃ f', f = f' + 1 := ⟨f - 1, by omega⟩
    have ih2 := ih f (row + 1) (by omega) (by omega)
    rw [show ((n + 1 : Nat) : Int) - 1 = (n : Int) by omega]
    simp (disch := omega) only [fX4_tooManyInARow_25, has_s, qbI_s, qbL_s, qbV_s, qbR_s, qbR_n, qbN_s, qbN_n, qbIX_s, qbIX_n, qbVX_s, qbVX_n, cond_true, cond_false, cond_dec, jadd, jsub, jmul, jneg, li_0, li_1, li_2, li_3, li_4, li_5, li_6, li_7, li_8, li_9, li_10, li_14, li_15, li_16, li_19, li_20, li_24, li_30, li_31, li_32, li_39, li_40, li_48, li_57, li_59, li_60, li_63, li_65, li_80, li_81, li_90, li_97, li_99, li_100, li_122, li_126, li_127, li_150, li_160, li_200, li_225, li_255, li_400, li_799, li_800, li_999, li_2400, li_3239, li_3240, li_1048575, li_1431655765, li_858993459, li_252645135, eqb_j, ltb_j, leb_j, inb_j, ix_j, ix_n, nz_b, nz_0, nz_1, eqb_b, bnot, vI_ne, vI_eq, gIL, gLI, gIR, gRI, gLR, gRL, Int.reduceLT, Int.reduceLE, Int.reduceEq, Int.reduceAdd, Int.reduceSub, Int.reduceMul, Int.reduceNeg, Int.reduceToNat, Nat.reduceEqDiff, reduceIte, if_neg, if_pos, gI_ne]
    unfold runDn
    cases h : bt bits n
    · rfl
    · simp only [cond_true, if_true]
      rw [show row + (runDn (bt bits) n + 1) = row + 1 + runDn (bt bits) n by omega]
      exact ih2
theorem tiredUp (m : qM) (bits : Int32) (k48 : Int32 → Int32 → Int32 → Int32 → Int32 → qM → Option (Int32 × qM)) (x2 x4 x5 : Int32) : ∀ (r s f : Nat) (row : Nat), s + r = 20 → r < f → fX4_tooManyInARow_38 k48 f x2 bits x4 x5 (Zi row) (Zi s) m = k48 x2 bits x4 x5 (Zi ((row + runUp (bt bits) s r : Nat) : Int)) m := by
  intro r
  induction r with
  | zero =>
    intro s f row hs hf
    obtain ⟨f, rfl⟩ : ∃ f', f = f' + 1 := ⟨f - 1, by omega⟩
    simp (disch := omega) only [fX4_tooManyInARow_38, qbI_s, qbL_s, qbV_s, qbR_s, qbR_n, qbN_s, qbN_n, qbIX_s, qbIX_n, qbVX_s, qbVX_n, cond_true, cond_false, cond_dec, jadd, jsub, jmul, jneg, li_0, li_1, li_2, li_3, li_4, li_5, li_6, li_7, li_8, li_9, li_10, li_14, li_15, li_16, li_19, li_20, li_24, li_30, li_31, li_32, li_39, li_40, li_48, li_57, li_59, li_60, li_63, li_65, li_80, li_81, li_90, li_97, li_99, li_100, li_122, li_126, li_127, li_150, li_160, li_200, li_225, li_255, li_400, li_799, li_800, li_999, li_2400, li_3239, li_3240, li_1048575, li_1431655765, li_858993459, li_252645135, eqb_j, ltb_j, leb_j, inb_j, ix_j, ix_n, nz_b, nz_0, nz_1, eqb_b, bnot, vI_ne, vI_eq, gIL, gLI, gIR, gRI, gLR, gRL, Int.reduceLT, Int.reduceLE, Int.reduceEq, Int.reduceAdd, Int.reduceSub, Int.reduceMul, Int.reduceNeg, Int.reduceToNat, Nat.reduceEqDiff, reduceIte, if_neg, if_pos, gI_ne]
    rfl
  | succ r ih =>
    intro s f row hs hf
    obtain ⟨f, rfl⟩ : ∃ f', f = f' + 1 := ⟨f - 1, by omega⟩
    have ih2 := ih (s + 1) f (row + 1) (by omega) (by omega)
    simp (disch := omega) only [fX4_tooManyInARow_38, has_s, qbI_s, qbL_s, qbV_s, qbR_s, qbR_n, qbN_s, qbN_n, qbIX_s, qbIX_n, qbVX_s, qbVX_n, cond_true, cond_false, cond_dec, jadd, jsub, jmul, jneg, li_0, li_1, li_2, li_3, li_4, li_5, li_6, li_7, li_8, li_9, li_10, li_14, li_15, li_16, li_19, li_20, li_24, li_30, li_31, li_32, li_39, li_40, li_48, li_57, li_59, li_60, li_63, li_65, li_80, li_81, li_90, li_97, li_99, li_100, li_122, li_126, li_127, li_150, li_160, li_200, li_225, li_255, li_400, li_799, li_800, li_999, li_2400, li_3239, li_3240, li_1048575, li_1431655765, li_858993459, li_252645135, eqb_j, ltb_j, leb_j, inb_j, ix_j, ix_n, nz_b, nz_0, nz_1, eqb_b, bnot, vI_ne, vI_eq, gIL, gLI, gIR, gRI, gLR, gRL, Int.reduceLT, Int.reduceLE, Int.reduceEq, Int.reduceAdd, Int.reduceSub, Int.reduceMul, Int.reduceNeg, Int.reduceToNat, Nat.reduceEqDiff, reduceIte, if_neg, if_pos, gI_ne]
    unfold runUp
    cases h : bt bits s
    · rfl
    · simp only [cond_true, if_true]
      rw [show row + (runUp (bt bits) (s + 1) r + 1) = row + 1 + runUp (bt bits) (s + 1) r by omega]
      exact ih2
theorem tired_s (m : qM) (d : Nat → Nat → Int) (hC : CAll m d) (t : Nat) (ht : t < 10) : ∃ x, fX4_tooManyInARow (Zi t) m = some (x, m) ∧ ∀ s : Nat, s < 20 → bt x s = !restB d t s := by
  obtain ⟨hRu, hPt, hPf, hAp, hWk, hAs, hPa, hCl, hDi, hBi, hCn⟩ := hC
  have r4 := hRu.2.2.2.2.2.1
  have t4 : fX7_told (Zi 4) m = some (Zi (d 99 4), m) := toldD_s m d hRu 4 (by omega)
  have hp : ∀ k, k < 20 → bt (gI m 66 t) k = ltB d t k := fun k hk => hBi.2.1 t k ht (by omega)
  have key : ∀ (r u g : Nat) (a4 : Int32), u + r = 20 → r < g → ∃ x, fX4_tooManyInARow_14 fX4_tooManyInARow_59 g (Zi (d 99 4)) (gI m 66 t) a4 (Zi u) m = some (x, m) ∧ ∀ s : Nat, s < 20 → bt x s = (bt a4 s || (decide (u ≤ s) && !restB d t s)) := by
    intro r
    induction r with
    | zero =>
      intro u g a4 hu hg
      obtain ⟨g, rfl⟩ : ∃ g', g = g' + 1 := ⟨g - 1, by omega⟩
      simp (disch := omega) only [fX4_tooManyInARow_14, fX4_tooManyInARow_59, qbI_s, qbL_s, qbV_s, qbR_s, qbR_n, qbN_s, qbN_n, qbIX_s, qbIX_n, qbVX_s, qbVX_n, cond_true, cond_false, cond_dec, jadd, jsub, jmul, jneg, li_0, li_1, li_2, li_3, li_4, li_5, li_6, li_7, li_8, li_9, li_10, li_14, li_15, li_16, li_19, li_20, li_24, li_30, li_31, li_32, li_39, li_40, li_48, li_57, li_59, li_60, li_63, li_65, li_80, li_81, li_90, li_97, li_99, li_100, li_122, li_126, li_127, li_150, li_160, li_200, li_225, li_255, li_400, li_799, li_800, li_999, li_2400, li_3239, li_3240, li_1048575, li_1431655765, li_858993459, li_252645135, eqb_j, ltb_j, leb_j, inb_j, ix_j, ix_n, nz_b, nz_0, nz_1, eqb_b, bnot, vI_ne, vI_eq, gIL, gLI, gIR, gRI, gLR, gRL, Int.reduceLT, Int.reduceLE, Int.reduceEq, Int.reduceAdd, Int.reduceSub, Int.reduceMul, Int.reduceNeg, Int.reduceToNat, Nat.reduceEqDiff, reduceIte, if_neg, if_pos, gI_ne]
      refine ⟨a4, rfl, fun s hs => ?_⟩
      rw [decide_eq_false (by omega), Bool.false_and, Bool.or_false]
    | succ r ih =>
      intro u g a4 hu hg
      obtain ⟨g, rfl⟩ : ∃ g', g = g' + 1 := ⟨g - 1, by omega⟩
      by_cases h0 : d 99 4 = 0
      · simp (disch := omega) only [fX4_tooManyInARow_14, fX4_tooManyInARow_59, qbI_s, qbL_s, qbV_s, qbR_s, qbR_n, qbN_s, qbN_n, qbIX_s, qbIX_n, qbVX_s, qbVX_n, cond_true, cond_false, cond_dec, jadd, jsub, jmul, jneg, li_0, li_1, li_2, li_3, li_4, li_5, li_6, li_7, li_8, li_9, li_10, li_14, li_15, li_16, li_19, li_20, li_24, li_30, li_31, li_32, li_39, li_40, li_48, li_57, li_59, li_60, li_63, li_65, li_80, li_81, li_90, li_97, li_99, li_100, li_122, li_126, li_127, li_150, li_160, li_200, li_225, li_255, li_400, li_799, li_800, li_999, li_2400, li_3239, li_3240, li_1048575, li_1431655765, li_858993459, li_252645135, eqb_j, ltb_j, leb_j, inb_j, ix_j, ix_n, nz_b, nz_0, nz_1, eqb_b, bnot, vI_ne, vI_eq, gIL, gLI, gIR, gRI, gLR, gRL, Int.reduceLT, Int.reduceLE, Int.reduceEq, Int.reduceAdd, Int.reduceSub, Int.reduceMul, Int.reduceNeg, Int.reduceToNat, Nat.reduceEqDiff, reduceIte, if_neg, if_pos, gI_ne]
        refine ⟨a4, rfl, fun s hs => ?_⟩
        rw [show restB d t s = true from decide_eq_true (Or.inl h0)]
        simp
      · have d1 := tiredDn m (gI m 66 t) (fX4_tooManyInARow_34 (fX4_tooManyInARow_14 fX4_tooManyInARow_59 g)) (Zi (d 99 4)) a4 (Zi u) u FU 1 (by rw [FU_d]; omega) (by omega)
        have d2 := tiredUp m (gI m 66 t) (fX4_tooManyInARow_48 (fX4_tooManyInARow_14 fX4_tooManyInARow_59 g)) (Zi (d 99 4)) a4 (Zi u) (19 - u) (u + 1) FU (1 + runDn (bt (gI m 66 t)) u) (by omega) (by rw [FU_d]; omega)
        rw [runDn_cong u (fun i hi => hp i (by omega))] at d1 d2
        rw [runUp_cong (19 - u) (u + 1) (fun i h1 h2 => hp i (by omega))] at d2
        have l1 := runDn_le (ltB d t) u
        have l2 := runUp_le (ltB d t) (19 - u) (u + 1)
        have comm : fX4_tooManyInARow_14 fX4_tooManyInARow_59 (g + 1) (Zi (d 99 4)) (gI m 66 t) a4 (Zi u) m = fX4_tooManyInARow_48 (fX4_tooManyInARow_14 fX4_tooManyInARow_59 g) (Zi (d 99 4)) (gI m 66 t) a4 (Zi u) (Zi ((1 + runDn (ltB d t) u + runUp (ltB d t) (u + 1) (19 - u) : Nat) : Int)) m := by
          refine Eq.trans ?_ (d1.trans (Eq.trans ?_ d2))
          · simp (disch := omega) only [fX4_tooManyInARow_14, qbI_s, qbL_s, qbV_s, qbR_s, qbR_n, qbN_s, qbN_n, qbIX_s, qbIX_n, qbVX_s, qbVX_n, cond_true, cond_false, cond_dec, jadd, jsub, jmul, jneg, li_0, li_1, li_2, li_3, li_4, li_5, li_6, li_7, li_8, li_9, li_10, li_14, li_15, li_16, li_19, li_20, li_24, li_30, li_31, li_32, li_39, li_40, li_48, li_57, li_59, li_60, li_63, li_65, li_80, li_81, li_90, li_97, li_99, li_100, li_122, li_126, li_127, li_150, li_160, li_200, li_225, li_255, li_400, li_799, li_800, li_999, li_2400, li_3239, li_3240, li_1048575, li_1431655765, li_858993459, li_252645135, eqb_j, ltb_j, leb_j, inb_j, ix_j, ix_n, nz_b, nz_0, nz_1, eqb_b, bnot, vI_ne, vI_eq, gIL, gLI, gIR, gRI, gLR, gRL, Int.reduceLT, Int.reduceLE, Int.reduceEq, Int.reduceAdd, Int.reduceSub, Int.reduceMul, Int.reduceNeg, Int.reduceToNat, Nat.reduceEqDiff, reduceIte, if_neg, if_pos, gI_ne]
            rfl
          · simp (disch := omega) only [fX4_tooManyInARow_34, qbI_s, qbL_s, qbV_s, qbR_s, qbR_n, qbN_s, qbN_n, qbIX_s, qbIX_n, qbVX_s, qbVX_n, cond_true, cond_false, cond_dec, jadd, jsub, jmul, jneg, li_0, li_1, li_2, li_3, li_4, li_5, li_6, li_7, li_8, li_9, li_10, li_14, li_15, li_16, li_19, li_20, li_24, li_30, li_31, li_32, li_39, li_40, li_48, li_57, li_59, li_60, li_63, li_65, li_80, li_81, li_90, li_97, li_99, li_100, li_122, li_126, li_127, li_150, li_160, li_200, li_225, li_255, li_400, li_799, li_800, li_999, li_2400, li_3239, li_3240, li_1048575, li_1431655765, li_858993459, li_252645135, eqb_j, ltb_j, leb_j, inb_j, ix_j, ix_n, nz_b, nz_0, nz_1, eqb_b, bnot, vI_ne, vI_eq, gIL, gLI, gIR, gRI, gLR, gRL, Int.reduceLT, Int.reduceLE, Int.reduceEq, Int.reduceAdd, Int.reduceSub, Int.reduceMul, Int.reduceNeg, Int.reduceToNat, Nat.reduceEqDiff, reduceIte, if_neg, if_pos, gI_ne]
            rfl
        have fin : ∀ (b : Bool) (a5 : Int32), restB d t u = !b → (∀ s, s < 20 → bt a5 s = (bt a4 s || (decide (s = u) && b))) → ∀ (x : Int32), (∀ s : Nat, s < 20 → bt x s = (bt a5 s || (decide (u + 1 ≤ s) && !restB d t s))) → ∀ s : Nat, s < 20 → bt x s = (bt a4 s || (decide (u ≤ s) && !restB d t s)) := fun b a5 hb h5 x hx s hs => by
          rw [hx s hs, h5 s hs]
          by_cases e : s = u
          · subst e
            rw [decide_eq_true rfl, decide_eq_false (by omega), decide_eq_true (Nat.le_refl s), hb]
            simp
          · rw [decide_eq_false e, show decide (u + 1 ≤ s) = decide (u ≤ s) from decide_eq_decide.mpr (by omega)]
            simp
        by_cases h1 : ((1 + runDn (ltB d t) u + runUp (ltB d t) (u + 1) (19 - u) : Nat) : Int) ≤ d 99 4
        · obtain ⟨x, ih1, ih2⟩ := ih (u + 1) g a4 (by omega) (by omega)
          refine ⟨x, ?_, fin false a4 (decide_eq_true (Or.inr h1)) (fun s hs => by simp) x ih2⟩
          rw [comm, ← ih1]
          simp (disch := omega) only [fX4_tooManyInARow_48, fX4_tooManyInARow_57, qbI_s, qbL_s, qbV_s, qbR_s, qbR_n, qbN_s, qbN_n, qbIX_s, qbIX_n, qbVX_s, qbVX_n, cond_true, cond_false, cond_dec, jadd, jsub, jmul, jneg, li_0, li_1, li_2, li_3, li_4, li_5, li_6, li_7, li_8, li_9, li_10, li_14, li_15, li_16, li_19, li_20, li_24, li_30, li_31, li_32, li_39, li_40, li_48, li_57, li_59, li_60, li_63, li_65, li_80, li_81, li_90, li_97, li_99, li_100, li_122, li_126, li_127, li_150, li_160, li_200, li_225, li_255, li_400, li_799, li_800, li_999, li_2400, li_3239, li_3240, li_1048575, li_1431655765, li_858993459, li_252645135, eqb_j, ltb_j, leb_j, inb_j, ix_j, ix_n, nz_b, nz_0, nz_1, eqb_b, bnot, vI_ne, vI_eq, gIL, gLI, gIR, gRI, gLR, gRL, Int.reduceLT, Int.reduceLE, Int.reduceEq, Int.reduceAdd, Int.reduceSub, Int.reduceMul, Int.reduceNeg, Int.reduceToNat, Nat.reduceEqDiff, reduceIte, if_neg, if_pos, gI_ne]
          rfl
        · obtain ⟨x, ih1, ih2⟩ := ih (u + 1) g (a4 ||| ((1 : Int32) <<< (nI u &&& 31))) (by omega) (by omega)
          refine ⟨x, ?_, fin true _ (decide_eq_false (fun z => by omega)) (fun s hs => by rw [b_or, b_one (by omega) (by omega), Bool.and_true]) x ih2⟩
          rw [comm, ← ih1]
          simp (disch := omega) only [fX4_tooManyInARow_48, fX4_tooManyInARow_57, qbI_s, qbL_s, qbV_s, qbR_s, qbR_n, qbN_s, qbN_n, qbIX_s, qbIX_n, qbVX_s, qbVX_n, cond_true, cond_false, cond_dec, jadd, jsub, jmul, jneg, li_0, li_1, li_2, li_3, li_4, li_5, li_6, li_7, li_8, li_9, li_10, li_14, li_15, li_16, li_19, li_20, li_24, li_30, li_31, li_32, li_39, li_40, li_48, li_57, li_59, li_60, li_63, li_65, li_80, li_81, li_90, li_97, li_99, li_100, li_122, li_126, li_127, li_150, li_160, li_200, li_225, li_255, li_400, li_799, li_800, li_999, li_2400, li_3239, li_3240, li_1048575, li_1431655765, li_858993459, li_252645135, eqb_j, ltb_j, leb_j, inb_j, ix_j, ix_n, nz_b, nz_0, nz_1, eqb_b, bnot, vI_ne, vI_eq, gIL, gLI, gIR, gRI, gLR, gRL, Int.reduceLT, Int.reduceLE, Int.reduceEq, Int.reduceAdd, Int.reduceSub, Int.reduceMul, Int.reduceNeg, Int.reduceToNat, Nat.reduceEqDiff, reduceIte, if_neg, if_pos, gI_ne]
          simp only [Zn]
          rfl
  obtain ⟨x, k1, k2⟩ := key 20 0 FU 0 (by omega) (by rw [FU_d]; omega)
  rw [fX4_tooManyInARow_d]
  refine ⟨x, ?_, fun s hs => ?_⟩
  · rw [← k1]
    simp (disch := omega) only [fX4_tooManyInARow_0, qbI_s, qbL_s, qbV_s, qbR_s, qbR_n, qbN_s, qbN_n, qbIX_s, qbIX_n, qbVX_s, qbVX_n, cond_true, cond_false, cond_dec, jadd, jsub, jmul, jneg, li_0, li_1, li_2, li_3, li_4, li_5, li_6, li_7, li_8, li_9, li_10, li_14, li_15, li_16, li_19, li_20, li_24, li_30, li_31, li_32, li_39, li_40, li_48, li_57, li_59, li_60, li_63, li_65, li_80, li_81, li_90, li_97, li_99, li_100, li_122, li_126, li_127, li_150, li_160, li_200, li_225, li_255, li_400, li_799, li_800, li_999, li_2400, li_3239, li_3240, li_1048575, li_1431655765, li_858993459, li_252645135, eqb_j, ltb_j, leb_j, inb_j, ix_j, ix_n, nz_b, nz_0, nz_1, eqb_b, bnot, vI_ne, vI_eq, gIL, gLI, gIR, gRI, gLR, gRL, Int.reduceLT, Int.reduceLE, Int.reduceEq, Int.reduceAdd, Int.reduceSub, Int.reduceMul, Int.reduceNeg, Int.reduceToNat, Nat.reduceEqDiff, reduceIte, if_neg, if_pos, gI_ne, t4]
    rfl
  · rw [k2 s hs, b_0, Bool.false_or, decide_eq_true (Nat.zero_le s), Bool.true_and]
theorem open_s (m : qM) (d : Nat → Nat → Int) (hC : CAll m d) (a : Nat) (ha : (a : Int) < d 98 32) (hu : d 125 a = -1) : ∃ x, fX4_openSlots (Zi a) m = some (x, m) ∧ (∀ s : Nat, s < 20 → bt x s = mbV d a s) ∧ ∀ s : Nat, 20 ≤ s → bt x s = false := by
  have hC' := hC
  obtain ⟨hRu, hPt, hPf, hAp, hWk, hAs, hPa, hCl, hDi, hBi, hCn⟩ := hC'
  obtain ⟨e1, e2, e3, e4⟩ := hAs
  obtain ⟨k1, k2, k3, k4⟩ := e4 a ha
  obtain ⟨f, hf⟩ : ∃ f : Nat, d 123 a = f := ⟨(d 123 a).toNat, by omega⟩
  obtain ⟨t, ht⟩ : ∃ t : Nat, d 124 a = t := ⟨(d 124 a).toNat, by omega⟩
  obtain ⟨x1, w1, w2⟩ := nearW_s m d hC f t (by omega) (by omega)
  obtain ⟨x2, v1, v2⟩ := nearA_s m d hC f (by omega)
  obtain ⟨x3, z1, z2⟩ := tired_s m d hC t (by omega)
  have pF := hPf f (by omega)
  have pT := hPt t (by omega)
  have c59 : gI m 59 a = Zi f := by rw [gIv 59, k1.1, hf]
  have c60 : gI m 60 a = Zi t := by rw [gIv 60, k2.1, ht]
  have ok1 : ∀ s : Nat, s < 20 → (pd (∀ o : Nat, (o : Int) < d 98 32 → okV d a s o) = true ↔ (¬ laidF d f s ∧ ¬ laidT d t s ∧ ¬ (0 < d 118 f ∧ laidI d (d 118 f).toNat s)) ∧ bt x1 s = false ∧ bt x2 s = false) := fun s hs => by
    rw [pd_iff, ← Bool.not_eq_true, ← Bool.not_eq_true, w2 s hs, v2 s hs, pd_iff, pd_iff]
    simp only [okV, hf, ht, Int.toNat_natCast, laidF, laidT, laidI]
    constructor
    · intro h
      refine ⟨⟨?_, ?_, ?_⟩, ?_, ?_⟩
      · rintro ⟨o, h1, h2, h3⟩
        exact (h o h1 (by omega)).1 ⟨h3, Or.inl h2⟩
      · rintro ⟨o, h1, h2, h3⟩
        exact (h o h1 (by omega)).1 ⟨h3, Or.inr (Or.inl h2)⟩
      · rintro ⟨h0, o, h1, h2, h3⟩
        exact (h o h1 (by omega)).1 ⟨h3, Or.inr (Or.inr ⟨h0, by omega⟩)⟩
      · rintro ⟨o, h1, h2, h3, h4⟩
        exact (h o h1 h3).2.1 ⟨h2, h4⟩
      · rintro ⟨o, h1, h2, h3, h4⟩
        exact (h o h1 h2).2.2 ⟨h3, h4⟩
    · rintro ⟨⟨h1, h2, h3⟩, h4, h5⟩ o ho hl
      refine ⟨?_, ?_, ?_⟩
      · rintro ⟨g1, g2 | g2 | ⟨g2, g3⟩⟩
        · exact h1 ⟨o, ho, g2, g1⟩
        · exact h2 ⟨o, ho, g2, g1⟩
        · exact h3 ⟨g2, o, ho, by omega, g1⟩
      · rintro ⟨g1, g2⟩
        exact h4 ⟨o, ho, g1, hl, g2⟩
      · rintro ⟨g1, g2⟩
        exact h5 ⟨o, ho, hl, g1, g2⟩
  have tF := pF.2.2.1
  have cFam : fX3_familySlots (Zi f) m = some (gI m 51 f, m) := by
    rw [fX3_familySlots_d]
    simp (disch := omega) only [fX3_familySlots_0, qbI_s, qbL_s, qbV_s, qbR_s, qbR_n, qbN_s, qbN_n, qbIX_s, qbIX_n, qbVX_s, qbVX_n, cond_true, cond_false, cond_dec, jadd, jsub, jmul, jneg, li_0, li_1, li_2, li_3, li_4, li_5, li_6, li_7, li_8, li_9, li_10, li_14, li_15, li_16, li_19, li_20, li_24, li_30, li_31, li_32, li_39, li_40, li_48, li_57, li_59, li_60, li_63, li_65, li_80, li_81, li_90, li_97, li_99, li_100, li_122, li_126, li_127, li_150, li_160, li_200, li_225, li_255, li_400, li_799, li_800, li_999, li_2400, li_3239, li_3240, li_1048575, li_1431655765, li_858993459, li_252645135, eqb_j, ltb_j, leb_j, inb_j, ix_j, ix_n, nz_b, nz_0, nz_1, eqb_b, bnot, vI_ne, vI_eq, gIL, gLI, gIR, gRI, gLR, gRL, Int.reduceLT, Int.reduceLE, Int.reduceEq, Int.reduceAdd, Int.reduceSub, Int.reduceMul, Int.reduceNeg, Int.reduceToNat, Nat.reduceEqDiff, reduceIte, if_neg, if_pos, gI_ne]
  have cTea : fX3_teacherSlots (Zi t) m = some (gI m 50 t, m) := by
    rw [fX3_teacherSlots_d]
    simp (disch := omega) only [fX3_teacherSlots_0, qbI_s, qbL_s, qbV_s, qbR_s, qbR_n, qbN_s, qbN_n, qbIX_s, qbIX_n, qbVX_s, qbVX_n, cond_true, cond_false, cond_dec, jadd, jsub, jmul, jneg, li_0, li_1, li_2, li_3, li_4, li_5, li_6, li_7, li_8, li_9, li_10, li_14, li_15, li_16, li_19, li_20, li_24, li_30, li_31, li_32, li_39, li_40, li_48, li_57, li_59, li_60, li_63, li_65, li_80, li_81, li_90, li_97, li_99, li_100, li_122, li_126, li_127, li_150, li_160, li_200, li_225, li_255, li_400, li_799, li_800, li_999, li_2400, li_3239, li_3240, li_1048575, li_1431655765, li_858993459, li_252645135, eqb_j, ltb_j, leb_j, inb_j, ix_j, ix_n, nz_b, nz_0, nz_1, eqb_b, bnot, vI_ne, vI_eq, gIL, gLI, gIR, gRI, gLR, gRL, Int.reduceLT, Int.reduceLE, Int.reduceEq, Int.reduceAdd, Int.reduceSub, Int.reduceMul, Int.reduceNeg, Int.reduceToNat, Nat.reduceEqDiff, reduceIte, if_neg, if_pos, gI_ne]
  have cTon : fX3_tongueOf (Zi f) m = some (Zi (d 118 f), m) := by
    rw [fX3_tongueOf_d]
    simp (disch := omega) only [fX3_tongueOf_0, qbI_s, qbL_s, qbV_s, qbR_s, qbR_n, qbN_s, qbN_n, qbIX_s, qbIX_n, qbVX_s, qbVX_n, cond_true, cond_false, cond_dec, jadd, jsub, jmul, jneg, li_0, li_1, li_2, li_3, li_4, li_5, li_6, li_7, li_8, li_9, li_10, li_14, li_15, li_16, li_19, li_20, li_24, li_30, li_31, li_32, li_39, li_40, li_48, li_57, li_59, li_60, li_63, li_65, li_80, li_81, li_90, li_97, li_99, li_100, li_122, li_126, li_127, li_150, li_160, li_200, li_225, li_255, li_400, li_799, li_800, li_999, li_2400, li_3239, li_3240, li_1048575, li_1431655765, li_858993459, li_252645135, eqb_j, ltb_j, leb_j, inb_j, ix_j, ix_n, nz_b, nz_0, nz_1, eqb_b, bnot, vI_ne, vI_eq, gIL, gLI, gIR, gRI, gLR, gRL, Int.reduceLT, Int.reduceLE, Int.reduceEq, Int.reduceAdd, Int.reduceSub, Int.reduceMul, Int.reduceNeg, Int.reduceToNat, Nat.reduceEqDiff, reduceIte, if_neg, if_pos, gI_ne, gIv 52, tF.1]
  have base : ∀ s : Nat, s < 32 → bt ((gI m 51 f &&& gI m 50 t) &&& ((gI m 65 f ||| gI m 66 t) ^^^ (-1))) s = ((decide (d 116 f ≤ s ∧ s ≤ d 117 f) && decide (d 114 t ≤ s ∧ s ≤ d 115 t)) && !(pd (laidF d f s) || pd (laidT d t s))) := fun s hs => by
    rw [b_and, b_and, b_not _ hs, b_or, pF.2.1 s hs, pT.2.2.2 s hs, hBi.1 f s (by omega) hs, hBi.2.1 t s (by omega) hs]
  have fin : ∀ y : Int32, (∀ s : Nat, s < 32 → bt y s = (((decide (d 116 f ≤ s ∧ s ≤ d 117 f) && decide (d 114 t ≤ s ∧ s ≤ d 115 t)) && !(pd (laidF d f s) || pd (laidT d t s))) && !pd (0 < d 118 f ∧ laidI d (d 118 f).toNat s))) → ∃ x, fX4_openSlots_51 (Zi f) (Zi t) y m = some (x, m) ∧ (∀ s : Nat, s < 20 → bt x s = mbV d a s) ∧ ∀ s : Nat, 20 ≤ s → bt x s = false := fun y hy => by
    have hmb : ∀ s : Nat, s < 20 → mbV d a s = (bt y s && ((!bt x1 s && !bt x2 s) && restB d t s)) := fun s hs => by
      rw [hy s (by omega), Bool.eq_iff_iff]
      simp only [mbV, hf, ht, Int.toNat_natCast, Bool.and_eq_true, decide_eq_true_eq, ok1 s hs, Bool.not_eq_true', Bool.or_eq_false_iff]
      rw [← Bool.not_eq_true (pd (laidF d f s)), ← Bool.not_eq_true (pd (laidT d t s)), ← Bool.not_eq_true (pd (0 < d 118 f ∧ laidI d (d 118 f).toNat s)), pd_iff, pd_iff, pd_iff]
      constructor
      · rintro ⟨⟨g1, g2⟩, ⟨⟨g3, g4, g5⟩, g6, g7⟩, g8⟩
        exact ⟨⟨⟨⟨g2, g1⟩, g3, g4⟩, g5⟩, ⟨g6, g7⟩, g8⟩
      · rintro ⟨⟨⟨⟨g2, g1⟩, g3, g4⟩, g5⟩, ⟨g6, g7⟩, g8⟩
        exact ⟨⟨g1, g2⟩, ⟨⟨g3, g4, g5⟩, g6, g7⟩, g8⟩
    by_cases h0 : y = 0
    · refine ⟨0, ?_, fun s hs => ?_, fun s hs => b_0 s⟩
      · have h0' : eqb (0 : Int32) (Zi 0) = true := by rw [eqb_d]; rfl
        rw [h0]
        simp (disch := omega) only [fX4_openSlots_51, fX4_openSlots_70, qbI_s, qbL_s, qbV_s, qbR_s, qbR_n, qbN_s, qbN_n, qbIX_s, qbIX_n, qbVX_s, qbVX_n, cond_true, cond_false, cond_dec, jadd, jsub, jmul, jneg, li_0, li_1, li_2, li_3, li_4, li_5, li_6, li_7, li_8, li_9, li_10, li_14, li_15, li_16, li_19, li_20, li_24, li_30, li_31, li_32, li_39, li_40, li_48, li_57, li_59, li_60, li_63, li_65, li_80, li_81, li_90, li_97, li_99, li_100, li_122, li_126, li_127, li_150, li_160, li_200, li_225, li_255, li_400, li_799, li_800, li_999, li_2400, li_3239, li_3240, li_1048575, li_1431655765, li_858993459, li_252645135, eqb_j, ltb_j, leb_j, inb_j, ix_j, ix_n, nz_b, nz_0, nz_1, eqb_b, bnot, vI_ne, vI_eq, gIL, gLI, gIR, gRI, gLR, gRL, Int.reduceLT, Int.reduceLE, Int.reduceEq, Int.reduceAdd, Int.reduceSub, Int.reduceMul, Int.reduceNeg, Int.reduceToNat, Nat.reduceEqDiff, reduceIte, if_neg, if_pos, gI_ne]
      · rw [hmb s hs, h0, b_0, Bool.false_and]
    · have h0' : eqb y (Zi 0) = false := by rw [eqb_d]; exact decide_eq_false h0
      refine ⟨y &&& (((x1 ||| x2) ||| x3) ^^^ (-1)), ?_, fun s hs => ?_, fun s hs => ?_⟩
      · simp (disch := omega) only [fX4_openSlots_51, fX4_openSlots_70, qbI_s, qbL_s, qbV_s, qbR_s, qbR_n, qbN_s, qbN_n, qbIX_s, qbIX_n, qbVX_s, qbVX_n, cond_true, cond_false, cond_dec, jadd, jsub, jmul, jneg, li_0, li_1, li_2, li_3, li_4, li_5, li_6, li_7, li_8, li_9, li_10, li_14, li_15, li_16, li_19, li_20, li_24, li_30, li_31, li_32, li_39, li_40, li_48, li_57, li_59, li_60, li_63, li_65, li_80, li_81, li_90, li_97, li_99, li_100, li_122, li_126, li_127, li_150, li_160, li_200, li_225, li_255, li_400, li_799, li_800, li_999, li_2400, li_3239, li_3240, li_1048575, li_1431655765, li_858993459, li_252645135, eqb_j, ltb_j, leb_j, inb_j, ix_j, ix_n, nz_b, nz_0, nz_1, eqb_b, bnot, vI_ne, vI_eq, gIL, gLI, gIR, gRI, gLR, gRL, Int.reduceLT, Int.reduceLE, Int.reduceEq, Int.reduceAdd, Int.reduceSub, Int.reduceMul, Int.reduceNeg, Int.reduceToNat, Nat.reduceEqDiff, reduceIte, if_neg, if_pos, gI_ne, h0', w1, v1, z1]
      · rw [hmb s hs, b_and, b_not _ (by omega), b_or, b_or, z2 s hs]
        simp only [Bool.not_or, Bool.not_not]
      · by_cases h32 : s < 32
        · rw [b_and, hy s h32, decide_eq_false (show ¬ (d 116 f ≤ s ∧ s ≤ d 117 f) from fun z => by have := pF.1; omega)]
          simp
        · exact b_big (by omega)
  rw [fX4_openSlots_d]
  by_cases h0 : d 118 f = 0
  · obtain ⟨x, g1, g2⟩ := fin _ (fun s hs => by
      rw [base s hs, pd_f (p := 0 < d 118 f ∧ laidI d (d 118 f).toNat s) (fun z => by have := z.1; omega)]
      simp)
    refine ⟨x, ?_, g2⟩
    rw [← g1]
    simp (disch := omega) only [fX4_openSlots_0, qbI_s, qbL_s, qbV_s, qbR_s, qbR_n, qbN_s, qbN_n, qbIX_s, qbIX_n, qbVX_s, qbVX_n, cond_true, cond_false, cond_dec, jadd, jsub, jmul, jneg, li_0, li_1, li_2, li_3, li_4, li_5, li_6, li_7, li_8, li_9, li_10, li_14, li_15, li_16, li_19, li_20, li_24, li_30, li_31, li_32, li_39, li_40, li_48, li_57, li_59, li_60, li_63, li_65, li_80, li_81, li_90, li_97, li_99, li_100, li_122, li_126, li_127, li_150, li_160, li_200, li_225, li_255, li_400, li_799, li_800, li_999, li_2400, li_3239, li_3240, li_1048575, li_1431655765, li_858993459, li_252645135, eqb_j, ltb_j, leb_j, inb_j, ix_j, ix_n, nz_b, nz_0, nz_1, eqb_b, bnot, vI_ne, vI_eq, gIL, gLI, gIR, gRI, gLR, gRL, Int.reduceLT, Int.reduceLE, Int.reduceEq, Int.reduceAdd, Int.reduceSub, Int.reduceMul, Int.reduceNeg, Int.reduceToNat, Nat.reduceEqDiff, reduceIte, if_neg, if_pos, gI_ne, c59, c60, cFam, cTea, cTon]
  · obtain ⟨i, hi⟩ : ∃ i : Nat, d 118 f = i := ⟨(d 118 f).toNat, by omega⟩
    obtain ⟨x, g1, g2⟩ := fin (((gI m 51 f &&& gI m 50 t) &&& ((gI m 65 f ||| gI m 66 t) ^^^ (-1))) &&& (gI m 67 i ^^^ (-1))) (fun s hs => by
      rw [b_and, base s hs, b_not _ hs, hBi.2.2 i s (by omega) (by omega) hs, hi, Int.toNat_natCast]
      congr 2
      rw [Bool.eq_iff_iff, pd_iff, pd_iff]
      exact ⟨fun h => ⟨by omega, h⟩, fun h => h.2⟩)
    refine ⟨x, ?_, g2⟩
    rw [← g1]
    simp (disch := omega) only [fX4_openSlots_0, qbI_s, qbL_s, qbV_s, qbR_s, qbR_n, qbN_s, qbN_n, qbIX_s, qbIX_n, qbVX_s, qbVX_n, cond_true, cond_false, cond_dec, jadd, jsub, jmul, jneg, li_0, li_1, li_2, li_3, li_4, li_5, li_6, li_7, li_8, li_9, li_10, li_14, li_15, li_16, li_19, li_20, li_24, li_30, li_31, li_32, li_39, li_40, li_48, li_57, li_59, li_60, li_63, li_65, li_80, li_81, li_90, li_97, li_99, li_100, li_122, li_126, li_127, li_150, li_160, li_200, li_225, li_255, li_400, li_799, li_800, li_999, li_2400, li_3239, li_3240, li_1048575, li_1431655765, li_858993459, li_252645135, eqb_j, ltb_j, leb_j, inb_j, ix_j, ix_n, nz_b, nz_0, nz_1, eqb_b, bnot, vI_ne, vI_eq, gIL, gLI, gIR, gRI, gLR, gRL, Int.reduceLT, Int.reduceLE, Int.reduceEq, Int.reduceAdd, Int.reduceSub, Int.reduceMul, Int.reduceNeg, Int.reduceToNat, Nat.reduceEqDiff, reduceIte, if_neg, if_pos, gI_ne, c59, c60, cFam, cTea, cTon, hi]
