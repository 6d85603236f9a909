/-! laid all -/
noncomputable def fsV (d : Nat → Nat → Int) (a : Nat) : Nat → Nat → Int
  | _, 0 => -1
  | s, r + 1 => if mbV d a s then (s : Int) else fsV d a (s + 1) r
theorem fsV_spec (d : Nat → Nat → Int) (a : Nat) : ∀ r s, (fsV d a s r = -1 ∧ ∀ i, s ≤ i → i < s + r → mbV d a i = false) ∨ ∃ i : Nat, s ≤ i ∧ i < s + r ∧ fsV d a s r = i ∧ mbV d a i = true ∧ ∀ j, s ≤ j → j < i → mbV d a j = false
  | 0, s => Or.inl ⟨rfl, fun i h1 h2 => by omega⟩
  | r + 1, s => by
    unfold fsV
    cases h : mbV d a s
    · rw [if_neg (by decide)]
      rcases fsV_spec d a r (s + 1) with ⟨h1, h2⟩ | ⟨i, h1, h2, h3, h4, h5⟩
      · refine Or.inl ⟨h1, fun i g1 g2 => ?_⟩
        by_cases e : i = s
        · rw [e]; exact h
        · exact h2 i (by omega) (by omega)
      · refine Or.inr ⟨i, by omega, by omega, h3, h4, fun j g1 g2 => ?_⟩
        by_cases e : j = s
        · rw [e]; exact h
        · exact h5 j (by omega) g2
    · rw [if_pos rfl]
      exact Or.inr ⟨s, Nat.le_refl _, by omega, rfl, h, fun j h1 h2 => by omega⟩
noncomputable def flD (d : Nat → Nat → Int) (a : Nat) : Int := if fsV d a (d 119 (d 123 a).toNat).toNat (d 120 (d 123 a).toNat + 1 - d 119 (d 123 a).toNat).toNat = -1 then fsV d a 0 20 else fsV d a (d 119 (d 123 a).toNat).toNat (d 120 (d 123 a).toNat + 1 - d 119 (d 123 a).toNat).toNat
theorem DOk.mono {d d' : Nat → Nat → Int} (h : DOk d) (q : ∀ c k, dP c k → d' c k = d c k) : DOk d' := by
  have q' : ∀ c k, (c = 98 ∧ k = 32 ∨ c = 99 ∨ 112 ≤ c ∧ c ≤ 126) → d' c k = d c k := q
  simp only [DOk] at h ⊢
  simp (disch := omega) only [q']
  exact h
theorem DOk.up {d : Nat → Nat → Int} (h : DOk d) (a : Nat) (s : Int) (hs : -1 ≤ s ∧ s ≤ 19) : DOk (upS d a s) := by
  obtain ⟨x1, x2, x3, x4, x5, x6, x7⟩ := h
  simp only [DOk]
  simp (disch := omega) only [upS_ne]
  refine ⟨x1, x2, x3, x4, x5, x6, fun o ho => ?_⟩
  have := x7 o ho
  rw [upS_eq]
  refine ⟨this.1, this.2.1, this.2.2.1, ?_⟩
  split <;> omega
theorem fl_r (d : Nat → Nat → Int) (hD : DOk d) (a : Nat) (ha : (a : Int) < d 98 32) : flD d a = -1 ∧ (∀ i, i < 20 → mbV d a i = false) ∨ ∃ i : Nat, i < 20 ∧ flD d a = i ∧ mbV d a i = true := by
  obtain ⟨f1, -⟩ := hD.2.2.2.2.2.2 a ha
  have f2 := (hD.2.2.1 (d 123 a).toNat (by omega)).2.2.1
  unfold flD
  rcases fsV_spec d a (d 120 (d 123 a).toNat + 1 - d 119 (d 123 a).toNat).toNat (d 119 (d 123 a).toNat).toNat with ⟨h1, h2⟩ | ⟨i, h1, h2, h3, h4, h5⟩
  · rw [if_pos h1]
    rcases fsV_spec d a 20 0 with ⟨g1, g2⟩ | ⟨i, g1, g2, g3, g4, g5⟩
    · exact Or.inl ⟨g1, fun i hi => g2 i (by omega) (by omega)⟩
    · exact Or.inr ⟨i, by omega, g3, g4⟩
  · rw [if_neg (by omega)]
    exact Or.inr ⟨i, by omega, h3, h4⟩
theorem layFirst_s (m : qM) (d : Nat → Nat → Int) (hC : CAll m d) (a : Nat) (ha : (a : Int) < d 98 32) (hu : d 125 a = -1) : wp (fX0_layFirst (Zi a) m) (fun _ m' => CAll m' (upS d a (flD d a)) ∧ Fr plP m m') := by
  have hD := DOk.of hC
  have hC' := hC
  obtain ⟨hRu, hPt, hPf, hAp, hWk, hAs, hPa, hCl, hDi, hBi, hCn⟩ := hC'
  obtain ⟨e1, e2, e3, e4⟩ := hAs
  obtain ⟨k1, k2, k3, k4⟩ := e4 a ha
  obtain ⟨f, hf⟩ : ∃ f : Nat, d 123 a = f := ⟨(d 123 a).toNat, by omega⟩
  have pF := hPf f (by omega)
  obtain ⟨x, x1, x2, x3⟩ := open_s m d hC a ha hu
  have cf : fX4_familyOf (Zi a) m = some (Zi f, m) := by
    rw [fX4_familyOf_d]
    simp (disch := omega) only [fX4_familyOf_0, qbI_s, qbL_s, qbV_s, qbR_s, qbR_n, qbN_s, qbN_n, qbIX_s, qbIX_n, qbVX_s, qbVX_n, cond_true, cond_false, cond_dec, jadd, jsub, jmul, jneg, li_0, li_1, li_2, li_3, li_4, li_5, li_6, li_7, li_8, li_9, li_10, li_14, li_15, li_16, li_19, li_20, li_24, li_30, li_31, li_32, li_39, li_40, li_48, li_57, li_59, li_60, li_63, li_65, li_80, li_81, li_90, li_97, li_99, li_100, li_122, li_126, li_127, li_150, li_160, li_200, li_225, li_255, li_400, li_799, li_800, li_999, li_2400, li_3239, li_3240, li_1048575, li_1431655765, li_858993459, li_252645135, eqb_j, ltb_j, leb_j, inb_j, ix_j, ix_n, nz_b, nz_0, nz_1, eqb_b, bnot, vI_ne, vI_eq, gIL, gLI, gIR, gRI, gLR, gRL, Int.reduceLT, Int.reduceLE, Int.reduceEq, Int.reduceAdd, Int.reduceSub, Int.reduceMul, Int.reduceNeg, Int.reduceToNat, Nat.reduceEqDiff, reduceIte, if_neg, if_pos, gI_ne, gIv 59, k1.1, hf]
  have cw : fX3_wishOf (Zi f) m = some (gI m 53 f, m) := by
    rw [fX3_wishOf_d]
    simp (disch := omega) only [fX3_wishOf_0, qbI_s, qbL_s, qbV_s, qbR_s, qbR_n, qbN_s, qbN_n, qbIX_s, qbIX_n, qbVX_s, qbVX_n, cond_true, cond_false, cond_dec, jadd, jsub, jmul, jneg, li_0, li_1, li_2, li_3, li_4, li_5, li_6, li_7, li_8, li_9, li_10, li_14, li_15, li_16, li_19, li_20, li_24, li_30, li_31, li_32, li_39, li_40, li_48, li_57, li_59, li_60, li_63, li_65, li_80, li_81, li_90, li_97, li_99, li_100, li_122, li_126, li_127, li_150, li_160, li_200, li_225, li_255, li_400, li_799, li_800, li_999, li_2400, li_3239, li_3240, li_1048575, li_1431655765, li_858993459, li_252645135, eqb_j, ltb_j, leb_j, inb_j, ix_j, ix_n, nz_b, nz_0, nz_1, eqb_b, bnot, vI_ne, vI_eq, gIL, gLI, gIR, gRI, gLR, gRL, Int.reduceLT, Int.reduceLE, Int.reduceEq, Int.reduceAdd, Int.reduceSub, Int.reduceMul, Int.reduceNeg, Int.reduceToNat, Nat.reduceEqDiff, reduceIte, if_neg, if_pos, gI_ne]
  have hw : ∀ s : Nat, s < 20 → bt (x &&& gI m 53 f) s = (mbV d a s && decide (d 119 f ≤ s ∧ (s : Int) ≤ d 120 f)) := fun s hs => by
    rw [b_and, x2 s hs, pF.2.2.2.2.1 s (by omega)]
  have ww : ∀ s : Nat, 20 ≤ s → bt (x &&& gI m 53 f) s = false := fun s hs => by rw [b_and, x3 s hs, Bool.false_and]
  have fl : flD d a = if fsV d a (d 119 f).toNat (d 120 f + 1 - d 119 f).toNat = -1 then fsV d a 0 20 else fsV d a (d 119 f).toNat (d 120 f + 1 - d 119 f).toNat := by
    unfold flD
    rw [hf, Int.toNat_natCast]
  have tail : ∀ (y : Int32) (i : Nat), i < 20 → bt y i = true → (∀ j, j < i → bt y j = false) → flD d a = i → mbV d a i = true → wp (fX0_layFirst_25 y (Zi a) m) (fun _ m' => CAll m' (upS d a (flD d a)) ∧ Fr plP m m') := fun y i hi h1 h2 h3 h4 => by
    obtain ⟨u, m1, g1, g2, g3⟩ := put_s m d hC a i ha hu hi (NC.of_mb h4)
    refine ⟨(), m1, ?_, by rw [h3]; exact g2, g3⟩
    simp only [fX0_layFirst_25, fX0_layFirst_27, least_s y i (by omega) h1 h2, qbI_s, g1, qbV_s]
  rw [fX0_layFirst_d]
  simp only [fX0_layFirst_0, x1, qbI_s, cf, cw]
  by_cases h0 : x = 0
  · have z : eqb x 0 = true := by rw [h0, eqb_d]; rfl
    have hn : flD d a = -1 := by
      rcases fl_r d hD a ha with h | ⟨i, h1, h2, h3⟩
      · exact h.1
      · rw [← x2 i h1, h0, b_0] at h3; cases h3
    rw [z, hn, ← hu, upS_self]
    exact ⟨(), m, rfl, hC, Fr.rf m⟩
  · have z : eqb x 0 = false := by rw [eqb_d]; exact decide_eq_false h0
    rw [z]
    simp only [cond_false]
    rcases fsV_spec d a (d 120 f + 1 - d 119 f).toNat (d 119 f).toNat with ⟨g1, g2⟩ | ⟨i, g1, g2, g3, g4, g5⟩
    · have z2 : x &&& gI m 53 f = 0 := b_ext fun s hs => by
        rw [b_0]
        by_cases h20 : s < 20
        · rw [hw s h20]
          by_cases hr : d 119 f ≤ s ∧ (s : Int) ≤ d 120 f
          · rw [g2 s (by omega) (by omega), Bool.false_and]
          · rw [decide_eq_false hr, Bool.and_false]
        · exact ww s (by omega)
      have z3 : eqb (x &&& gI m 53 f) 0 = true := by rw [z2, eqb_d]; rfl
      rw [z3]
      simp only [cond_true]
      rw [if_pos g1] at fl
      rcases fsV_spec d a 20 0 with ⟨q1, q2⟩ | ⟨i, q1, q2, q3, q4, q5⟩
      · exact absurd (b_ext fun s hs => by
          rw [b_0]
          by_cases h20 : s < 20
          · rw [x2 s h20]; exact q2 s (by omega) (by omega)
          · exact x3 s (by omega)) h0
      · exact tail x i (by omega) (by rw [x2 i (by omega)]; exact q4) (fun j hj => by rw [x2 j (by omega)]; exact q5 j (by omega) hj) (by rw [fl, q3]) q4
    · have z3 : eqb (x &&& gI m 53 f) 0 = false := by
        rw [eqb_d]
        refine decide_eq_false fun z => ?_
        have := hw i (by omega)
        rw [z, b_0, g4, decide_eq_true (by omega)] at this
        cases this
      rw [z3]
      simp only [cond_false]
      rw [if_neg (by omega)] at fl
      refine tail _ i (by omega) (by rw [hw i (by omega), g4, decide_eq_true (by omega)]; rfl) (fun j hj => ?_) (by rw [fl, g3]) g4
      rw [hw j (by omega)]
      by_cases hr : d 119 f ≤ j ∧ (j : Int) ≤ d 120 f
      · rw [g5 j (by omega) hj, Bool.false_and]
      · rw [decide_eq_false hr, Bool.and_false]
noncomputable def step1 (mu y : Int) (a : Nat) (d : Nat → Nat → Int) : Nat → Nat → Int := if d 126 a = mu ∧ d 121 (d 123 a).toNat = y ∧ d 125 a = -1 then upS d a (flD d a) else d
noncomputable def layIn (mu y : Int) : Nat → Nat → (Nat → Nat → Int) → (Nat → Nat → Int)
  | 0, _, d => d
  | r + 1, i, d => layIn mu y r (i + 1) (step1 mu y i d)
noncomputable def layYs (mu : Int) : Nat → (Nat → Nat → Int) → (Nat → Nat → Int)
  | 0, d => d
  | y + 1, d => layYs mu y (layIn mu y (d 98 32).toNat 0 d)
theorem step1_98 (mu y : Int) (a : Nat) (d : Nat → Nat → Int) : step1 mu y a d 98 32 = d 98 32 := by
  unfold step1
  split
  · rw [upS_ne _ _ _ (by omega)]
  · rfl
theorem layIn_98 (mu y : Int) : ∀ r i d, layIn mu y r i d 98 32 = d 98 32
  | 0, i, d => rfl
  | r + 1, i, d => by rw [layIn, layIn_98 mu y r (i + 1), step1_98]
theorem layThose_in (mu : Int) (hmu : mu = 0 ∨ mu = 1) (y : Nat) (hy : y < 10) (k2 : Int32 → Int32 → qM → Option (Unit × qM)) (Q : Unit → qM → Prop) (m0 : qM) : ∀ (r i g : Nat) (m : qM) (d : Nat → Nat → Int), CAll m d → Fr plP m0 m → i + r = (d 98 32).toNat → r < g → (∀ m', CAll m' (layIn mu y r i d) → Fr plP m0 m' → wp (k2 (Zi mu) (Zi ((y : Int) - 1)) m') Q) → wp (fX0_layThose_6 k2 g (Zi mu) (Zi y) (Zi i) m) Q := by
  intro r
  induction r with
  | zero =>
    intro i g m d hC hF hi hg hk
    obtain ⟨g, rfl⟩ : ∃ g', g = g' + 1 := ⟨g - 1, by omega⟩
    have h1 := hC.2.2.2.2.2.1
    have h2 := h1.2.1
    have h3 := h1.2.2.1
    simp (disch := omega) only [fX0_layThose_6, fX4_asks_d, fX4_asks_0, qbI_s, qbL_s, qbV_s, qbR_s, qbR_n, qbN_s, qbN_n, qbIX_s, qbIX_n, qbVX_s, qbVX_n, cond_true, cond_false, cond_dec, jadd, jsub, jmul, jneg, li_0, li_1, li_2, li_3, li_4, li_5, li_6, li_7, li_8, li_9, li_10, li_14, li_15, li_16, li_19, li_20, li_24, li_30, li_31, li_32, li_39, li_40, li_48, li_57, li_59, li_60, li_63, li_65, li_80, li_81, li_90, li_97, li_99, li_100, li_122, li_126, li_127, li_150, li_160, li_200, li_225, li_255, li_400, li_799, li_800, li_999, li_2400, li_3239, li_3240, li_1048575, li_1431655765, li_858993459, li_252645135, eqb_j, ltb_j, leb_j, inb_j, ix_j, ix_n, nz_b, nz_0, nz_1, eqb_b, bnot, vI_ne, vI_eq, gIL, gLI, gIR, gRI, gLR, gRL, Int.reduceLT, Int.reduceLE, Int.reduceEq, Int.reduceAdd, Int.reduceSub, Int.reduceMul, Int.reduceNeg, Int.reduceToNat, Nat.reduceEqDiff, reduceIte, if_neg, if_pos, gI_ne, gIv 58, h1.1]
    rw [show (y : Int) + -1 = (y : Int) - 1 by omega]
    exact hk m hC hF
  | succ r ih =>
    intro i g m d hC hF hi hg hk
    obtain ⟨g, rfl⟩ : ∃ g', g = g' + 1 := ⟨g - 1, by omega⟩
    have hAs := hC.2.2.2.2.2.1
    have h2 := hAs.2.1
    have h3 := hAs.2.2.1
    have hi' : (i : Int) < d 98 32 := by omega
    obtain ⟨k1, k2', k3, k4⟩ := hAs.2.2.2 i hi'
    obtain ⟨f, hf⟩ : ∃ f : Nat, d 123 i = f := ⟨(d 123 i).toNat, by omega⟩
    have pF := (hC.2.2.1 f (by omega)).2.2.2.2.2
    obtain ⟨w, hw⟩ : ∃ w : Bool, d 126 i = bI w := ⟨_, bI_01 _ k3.2⟩
    have hl := laidD m d hAs i hi'
    have go : ∀ (m' : qM) (d' : Nat → Nat → Int), step1 mu y i d = d' → CAll m' d' → Fr plP m0 m' → d' 98 32 = d 98 32 → wp (fX0_layThose_6 k2 g (Zi mu) (Zi y) (Zi ((i : Int) + 1)) m') Q := fun m' d' e1 e2 e3 e4 =>
      ih (i + 1) g m' d' e2 e3 (by rw [e4]; omega) (by omega) (fun m'' g1 g2 => hk m'' (by rw [layIn, e1]; exact g1) g2)
    have cm : fX4_isMust (Zi i) m = some (Zi (bI w), m) := by
      rw [fX4_isMust_d]
      simp (disch := omega) only [fX4_isMust_0, qbI_s, qbL_s, qbV_s, qbR_s, qbR_n, qbN_s, qbN_n, qbIX_s, qbIX_n, qbVX_s, qbVX_n, cond_true, cond_false, cond_dec, jadd, jsub, jmul, jneg, li_0, li_1, li_2, li_3, li_4, li_5, li_6, li_7, li_8, li_9, li_10, li_14, li_15, li_16, li_19, li_20, li_24, li_30, li_31, li_32, li_39, li_40, li_48, li_57, li_59, li_60, li_63, li_65, li_80, li_81, li_90, li_97, li_99, li_100, li_122, li_126, li_127, li_150, li_160, li_200, li_225, li_255, li_400, li_799, li_800, li_999, li_2400, li_3239, li_3240, li_1048575, li_1431655765, li_858993459, li_252645135, eqb_j, ltb_j, leb_j, inb_j, ix_j, ix_n, nz_b, nz_0, nz_1, eqb_b, bnot, vI_ne, vI_eq, gIL, gLI, gIR, gRI, gLR, gRL, Int.reduceLT, Int.reduceLE, Int.reduceEq, Int.reduceAdd, Int.reduceSub, Int.reduceMul, Int.reduceNeg, Int.reduceToNat, Nat.reduceEqDiff, reduceIte, if_neg, if_pos, gI_ne, gIv 61, k3.1, hw]
    have bw := bI_r w
    by_cases c1 : d 126 i = mu
    · by_cases c2 : d 121 f = y
      · by_cases c3 : d 125 i = -1
        · rw [show isLd d i = false from decide_eq_false (fun z => z c3)] at hl
          obtain ⟨u, m1, g1, g2, g3⟩ := layFirst_s m d hC i hi' c3
          have go' := go m1 _ (by unfold step1; rw [hf, Int.toNat_natCast, if_pos ⟨c1, c2, c3⟩]) g2 (hF.tr g3) (upS_ne _ _ _ (by omega))
          rw [hw] at c1
          simp (disch := omega) only [fX0_layThose_6, fX0_layThose_29, fX0_layThose_28, fX0_layThose_40, fX4_asks_d, fX4_asks_0, fX4_familyOf_d, fX4_familyOf_0, fX3_yearsOf_d, fX3_yearsOf_0, qbI_s, qbL_s, qbV_s, qbR_s, qbR_n, qbN_s, qbN_n, qbIX_s, qbIX_n, qbVX_s, qbVX_n, cond_true, cond_false, cond_dec, jadd, jsub, jmul, jneg, li_0, li_1, li_2, li_3, li_4, li_5, li_6, li_7, li_8, li_9, li_10, li_14, li_15, li_16, li_19, li_20, li_24, li_30, li_31, li_32, li_39, li_40, li_48, li_57, li_59, li_60, li_63, li_65, li_80, li_81, li_90, li_97, li_99, li_100, li_122, li_126, li_127, li_150, li_160, li_200, li_225, li_255, li_400, li_799, li_800, li_999, li_2400, li_3239, li_3240, li_1048575, li_1431655765, li_858993459, li_252645135, eqb_j, ltb_j, leb_j, inb_j, ix_j, ix_n, nz_b, nz_0, nz_1, eqb_b, bnot, vI_ne, vI_eq, gIL, gLI, gIR, gRI, gLR, gRL, Int.reduceLT, Int.reduceLE, Int.reduceEq, Int.reduceAdd, Int.reduceSub, Int.reduceMul, Int.reduceNeg, Int.reduceToNat, Nat.reduceEqDiff, reduceIte, if_neg, if_pos, gI_ne, gIv 58, gIv 59, gIv 54, hAs.1, cm, k1.1, hf, pF.1, c1, c2, hl, show bI false = 0 from rfl, g1]
          exact go'
        · rw [show isLd d i = true from decide_eq_true c3] at hl
          have go' := go m d (by unfold step1; rw [hf, Int.toNat_natCast, if_neg (fun z => c3 z.2.2)]) hC hF rfl
          rw [hw] at c1
          simp (disch := omega) only [fX0_layThose_6, fX0_layThose_29, fX0_layThose_28, fX0_layThose_40, fX4_asks_d, fX4_asks_0, fX4_familyOf_d, fX4_familyOf_0, fX3_yearsOf_d, fX3_yearsOf_0, qbI_s, qbL_s, qbV_s, qbR_s, qbR_n, qbN_s, qbN_n, qbIX_s, qbIX_n, qbVX_s, qbVX_n, cond_true, cond_false, cond_dec, jadd, jsub, jmul, jneg, li_0, li_1, li_2, li_3, li_4, li_5, li_6, li_7, li_8, li_9, li_10, li_14, li_15, li_16, li_19, li_20, li_24, li_30, li_31, li_32, li_39, li_40, li_48, li_57, li_59, li_60, li_63, li_65, li_80, li_81, li_90, li_97, li_99, li_100, li_122, li_126, li_127, li_150, li_160, li_200, li_225, li_255, li_400, li_799, li_800, li_999, li_2400, li_3239, li_3240, li_1048575, li_1431655765, li_858993459, li_252645135, eqb_j, ltb_j, leb_j, inb_j, ix_j, ix_n, nz_b, nz_0, nz_1, eqb_b, bnot, vI_ne, vI_eq, gIL, gLI, gIR, gRI, gLR, gRL, Int.reduceLT, Int.reduceLE, Int.reduceEq, Int.reduceAdd, Int.reduceSub, Int.reduceMul, Int.reduceNeg, Int.reduceToNat, Nat.reduceEqDiff, reduceIte, if_neg, if_pos, gI_ne, gIv 58, gIv 59, gIv 54, hAs.1, cm, k1.1, hf, pF.1, c1, c2, hl, show bI true = 1 from rfl]
          exact go'
      · have go' := go m d (by unfold step1; rw [hf, Int.toNat_natCast, if_neg (fun z => c2 z.2.1)]) hC hF rfl
        rw [hw] at c1
        simp (disch := omega) only [fX0_layThose_6, fX0_layThose_29, fX0_layThose_28, fX0_layThose_40, fX4_asks_d, fX4_asks_0, fX4_familyOf_d, fX4_familyOf_0, fX3_yearsOf_d, fX3_yearsOf_0, qbI_s, qbL_s, qbV_s, qbR_s, qbR_n, qbN_s, qbN_n, qbIX_s, qbIX_n, qbVX_s, qbVX_n, cond_true, cond_false, cond_dec, jadd, jsub, jmul, jneg, li_0, li_1, li_2, li_3, li_4, li_5, li_6, li_7, li_8, li_9, li_10, li_14, li_15, li_16, li_19, li_20, li_24, li_30, li_31, li_32, li_39, li_40, li_48, li_57, li_59, li_60, li_63, li_65, li_80, li_81, li_90, li_97, li_99, li_100, li_122, li_126, li_127, li_150, li_160, li_200, li_225, li_255, li_400, li_799, li_800, li_999, li_2400, li_3239, li_3240, li_1048575, li_1431655765, li_858993459, li_252645135, eqb_j, ltb_j, leb_j, inb_j, ix_j, ix_n, nz_b, nz_0, nz_1, eqb_b, bnot, vI_ne, vI_eq, gIL, gLI, gIR, gRI, gLR, gRL, Int.reduceLT, Int.reduceLE, Int.reduceEq, Int.reduceAdd, Int.reduceSub, Int.reduceMul, Int.reduceNeg, Int.reduceToNat, Nat.reduceEqDiff, reduceIte, if_neg, if_pos, gI_ne, gIv 58, gIv 59, gIv 54, hAs.1, cm, k1.1, hf, pF.1, c1]
        exact go'
    · have go' := go m d (by unfold step1; rw [if_neg (fun z => c1 z.1)]) hC hF rfl
      rw [hw] at c1
      simp (disch := omega) only [fX0_layThose_6, fX0_layThose_29, fX0_layThose_28, fX0_layThose_40, fX4_asks_d, fX4_asks_0, qbI_s, qbL_s, qbV_s, qbR_s, qbR_n, qbN_s, qbN_n, qbIX_s, qbIX_n, qbVX_s, qbVX_n, cond_true, cond_false, cond_dec, jadd, jsub, jmul, jneg, li_0, li_1, li_2, li_3, li_4, li_5, li_6, li_7, li_8, li_9, li_10, li_14, li_15, li_16, li_19, li_20, li_24, li_30, li_31, li_32, li_39, li_40, li_48, li_57, li_59, li_60, li_63, li_65, li_80, li_81, li_90, li_97, li_99, li_100, li_122, li_126, li_127, li_150, li_160, li_200, li_225, li_255, li_400, li_799, li_800, li_999, li_2400, li_3239, li_3240, li_1048575, li_1431655765, li_858993459, li_252645135, eqb_j, ltb_j, leb_j, inb_j, ix_j, ix_n, nz_b, nz_0, nz_1, eqb_b, bnot, vI_ne, vI_eq, gIL, gLI, gIR, gRI, gLR, gRL, Int.reduceLT, Int.reduceLE, Int.reduceEq, Int.reduceAdd, Int.reduceSub, Int.reduceMul, Int.reduceNeg, Int.reduceToNat, Nat.reduceEqDiff, reduceIte, if_neg, if_pos, gI_ne, gIv 58, hAs.1, cm]
      exact go'
theorem layThose_s (mu : Int) (hmu : mu = 0 ∨ mu = 1) (m : qM) (d : Nat → Nat → Int) (hC : CAll m d) : wp (fX0_layThose (Zi mu) m) (fun _ m' => CAll m' (layYs mu 10 d) ∧ Fr plP m m') := by
  have key : ∀ (n g : Nat) (w : qM) (e : Nat → Nat → Int), n ≤ 10 → n < g → CAll w e → Fr plP m w → wp (fX0_layThose_2 g (Zi mu) (Zi ((n : Int) - 1)) w) (fun _ m' => CAll m' (layYs mu n e) ∧ Fr plP m m') := by
    intro n
    induction n with
    | zero =>
      intro g w e hn hg h1 h2
      obtain ⟨g, rfl⟩ : ∃ g', g = g' + 1 := ⟨g - 1, by omega⟩
      simp (disch := omega) only [fX0_layThose_2, qbI_s, qbL_s, qbV_s, qbR_s, qbR_n, qbN_s, qbN_n, qbIX_s, qbIX_n, qbVX_s, qbVX_n, cond_true, cond_false, cond_dec, jadd, jsub, jmul, jneg, li_0, li_1, li_2, li_3, li_4, li_5, li_6, li_7, li_8, li_9, li_10, li_14, li_15, li_16, li_19, li_20, li_24, li_30, li_31, li_32, li_39, li_40, li_48, li_57, li_59, li_60, li_63, li_65, li_80, li_81, li_90, li_97, li_99, li_100, li_122, li_126, li_127, li_150, li_160, li_200, li_225, li_255, li_400, li_799, li_800, li_999, li_2400, li_3239, li_3240, li_1048575, li_1431655765, li_858993459, li_252645135, eqb_j, ltb_j, leb_j, inb_j, ix_j, ix_n, nz_b, nz_0, nz_1, eqb_b, bnot, vI_ne, vI_eq, gIL, gLI, gIR, gRI, gLR, gRL, Int.reduceLT, Int.reduceLE, Int.reduceEq, Int.reduceAdd, Int.reduceSub, Int.reduceMul, Int.reduceNeg, Int.reduceToNat, Nat.reduceEqDiff, reduceIte, if_neg, if_pos, gI_ne]
      exact wp_s ⟨h1, h2⟩
    | succ n ih =>
      intro g w e hn hg h1 h2
      obtain ⟨g, rfl⟩ : ∃ g', g = g' + 1 := ⟨g - 1, by omega⟩
      rw [show ((n + 1 : Nat) : Int) - 1 = (n : Int) by omega]
      have h3 := layThose_in mu hmu n (by omega) (fX0_layThose_2 g) (fun _ m' => CAll m' (layYs mu (n + 1) e) ∧ Fr plP m m') m (e 98 32).toNat 0 FU w e h1 h2 (by omega) (by have := h1.2.2.2.2.2.1.2.2.1; rw [FU_d]; omega) (fun m' g1 g2 => by
        rw [layYs]
        exact ih g m' _ (by omega) (by omega) g1 g2)
      simp (disch := omega) only [fX0_layThose_2, qbI_s, qbL_s, qbV_s, qbR_s, qbR_n, qbN_s, qbN_n, qbIX_s, qbIX_n, qbVX_s, qbVX_n, cond_true, cond_false, cond_dec, jadd, jsub, jmul, jneg, li_0, li_1, li_2, li_3, li_4, li_5, li_6, li_7, li_8, li_9, li_10, li_14, li_15, li_16, li_19, li_20, li_24, li_30, li_31, li_32, li_39, li_40, li_48, li_57, li_59, li_60, li_63, li_65, li_80, li_81, li_90, li_97, li_99, li_100, li_122, li_126, li_127, li_150, li_160, li_200, li_225, li_255, li_400, li_799, li_800, li_999, li_2400, li_3239, li_3240, li_1048575, li_1431655765, li_858993459, li_252645135, eqb_j, ltb_j, leb_j, inb_j, ix_j, ix_n, nz_b, nz_0, nz_1, eqb_b, bnot, vI_ne, vI_eq, gIL, gLI, gIR, gRI, gLR, gRL, Int.reduceLT, Int.reduceLE, Int.reduceEq, Int.reduceAdd, Int.reduceSub, Int.reduceMul, Int.reduceNeg, Int.reduceToNat, Nat.reduceEqDiff, reduceIte, if_neg, if_pos, gI_ne]
      exact h3
  rw [fX0_layThose_d]
  simp only [fX0_layThose_0]
  exact key 10 FU m d (by omega) (by rw [FU_d]; omega) hC (Fr.rf m)
noncomputable def lay2 (d : Nat → Nat → Int) : Nat → Nat → Int := layYs 0 10 (layYs 1 10 d)
theorem layEvery_s (m : qM) (d : Nat → Nat → Int) (hC : CAll m d) : wp (fX0_layEveryOne m) (fun x m' => x = Zi ((vA (lay2 d) : Int) - vA d) ∧ CAll m' (lay2 d) ∧ Fr plP m m') := by
  obtain ⟨u1, m1, g1, c1, f1⟩ := layThose_s 1 (Or.inr rfl) m d hC
  obtain ⟨u2, m2, g2, c2, f2⟩ := layThose_s 0 (Or.inl rfl) m1 _ c1
  have h1 := (cnt_C hC).1
  have h2 := (cnt_C c2).1
  refine ⟨_, m2, ?_, rfl, c2, f1.tr f2⟩
  rw [fX0_layEveryOne_d]
  simp (disch := omega) only [fX0_layEveryOne_0, fX4_laid_d, fX4_laid_0, qbI_s, qbL_s, qbV_s, qbR_s, qbR_n, qbN_s, qbN_n, qbIX_s, qbIX_n, qbVX_s, qbVX_n, cond_true, cond_false, cond_dec, jadd, jsub, jmul, jneg, li_0, li_1, li_2, li_3, li_4, li_5, li_6, li_7, li_8, li_9, li_10, li_14, li_15, li_16, li_19, li_20, li_24, li_30, li_31, li_32, li_39, li_40, li_48, li_57, li_59, li_60, li_63, li_65, li_80, li_81, li_90, li_97, li_99, li_100, li_122, li_126, li_127, li_150, li_160, li_200, li_225, li_255, li_400, li_799, li_800, li_999, li_2400, li_3239, li_3240, li_1048575, li_1431655765, li_858993459, li_252645135, eqb_j, ltb_j, leb_j, inb_j, ix_j, ix_n, nz_b, nz_0, nz_1, eqb_b, bnot, vI_ne, vI_eq, gIL, gLI, gIR, gRI, gLR, gRL, Int.reduceLT, Int.reduceLE, Int.reduceEq, Int.reduceAdd, Int.reduceSub, Int.reduceMul, Int.reduceNeg, Int.reduceToNat, Nat.reduceEqDiff, reduceIte, if_neg, if_pos, gI_ne, gIv 58, h1]
  rw [g1, qbV_s, g2, qbV_s, h2]
  rfl

/-! the reference's own -/
theorem MOk.ofD {m : qM} {d : Nat → Nat → Int} (hD : DOk d) (q : ∀ c k, dP c k → vI m c k = d c k) : MOk m := DOk.mono hD q
def MDt (m0 m : qM) (d : Nat → Nat → Int) : Prop := (∀ c k, dP c k → vI m c k = d c k) ∧ Fr (fun c _ => c = 125) m0 m
theorem MDt.set {m0 m : qM} {d : Nat → Nat → Int} (h : MDt m0 m d) (a : Nat) (s : Int) (hs : -1 ≤ s ∧ s ≤ 19) : MDt m0 (sI m 125 a (Zi s)) (upS d a s) := by
  refine ⟨fun c k hc => ?_, Fr.wI h.2 125 a (Zi s) rfl⟩
  unfold upS
  by_cases e : c = 125
  · subst e
    rw [vI_eq (by omega), if_pos rfl, h.1 125 k (by unfold dP; omega)]
  · rw [vI_ne e, if_neg e]
    exact h.1 c k hc
theorem firstSlot_s (m : qM) (d : Nat → Nat → Int) (hD : DOk d) (q : ∀ c k, dP c k → vI m c k = d c k) (a fr n : Nat) (ha : (a : Int) < d 98 32) (hu : d 125 a = -1) (hn : fr + n ≤ 20) : fX13_firstSlot (Zi a) (Zi fr) (Zi ((fr + n : Nat) - 1 : Int)) m = some (Zi (fsV d a fr n), m) := by
  have hM := MOk.ofD hD q
  have key : ∀ (r i g : Nat), i + r = fr + n → r < g → fX13_firstSlot_2 g (Zi a) (Zi ((fr + n : Nat) - 1 : Int)) (Zi i) m = some (Zi (fsV d a i r), m) := by
    intro r
    induction r with
    | zero =>
      intro i g hi hg
      obtain ⟨g, rfl⟩ : ∃ g', g = g' + 1 := ⟨g - 1, by omega⟩
      simp (disch := omega) only [fX13_firstSlot_2, qbI_s, qbL_s, qbV_s, qbR_s, qbR_n, qbN_s, qbN_n, qbIX_s, qbIX_n, qbVX_s, qbVX_n, cond_true, cond_false, cond_dec, jadd, jsub, jmul, jneg, li_0, li_1, li_2, li_3, li_4, li_5, li_6, li_7, li_8, li_9, li_10, li_14, li_15, li_16, li_19, li_20, li_24, li_30, li_31, li_32, li_39, li_40, li_48, li_57, li_59, li_60, li_63, li_65, li_80, li_81, li_90, li_97, li_99, li_100, li_122, li_126, li_127, li_150, li_160, li_200, li_225, li_255, li_400, li_799, li_800, li_999, li_2400, li_3239, li_3240, li_1048575, li_1431655765, li_858993459, li_252645135, eqb_j, ltb_j, leb_j, inb_j, ix_j, ix_n, nz_b, nz_0, nz_1, eqb_b, bnot, vI_ne, vI_eq, gIL, gLI, gIR, gRI, gLR, gRL, Int.reduceLT, Int.reduceLE, Int.reduceEq, Int.reduceAdd, Int.reduceSub, Int.reduceMul, Int.reduceNeg, Int.reduceToNat, Nat.reduceEqDiff, reduceIte, if_neg, if_pos, gI_ne]
      rfl
    | succ r ih =>
      intro i g hi hg
      obtain ⟨g, rfl⟩ : ∃ g', g = g' + 1 := ⟨g - 1, by omega⟩
      have ih2 := ih (i + 1) g (by omega) (by omega)
      have hb := mayBe_s m hM a i (by rw [q 98 32 (by unfold dP; omega)]; exact ha) (by omega) (by rw [q 125 a (by unfold dP; omega)]; exact hu)
      rw [mb_mono q] at hb
      simp (disch := omega) only [fX13_firstSlot_2, qbI_s, qbL_s, qbV_s, qbR_s, qbR_n, qbN_s, qbN_n, qbIX_s, qbIX_n, qbVX_s, qbVX_n, cond_true, cond_false, cond_dec, jadd, jsub, jmul, jneg, li_0, li_1, li_2, li_3, li_4, li_5, li_6, li_7, li_8, li_9, li_10, li_14, li_15, li_16, li_19, li_20, li_24, li_30, li_31, li_32, li_39, li_40, li_48, li_57, li_59, li_60, li_63, li_65, li_80, li_81, li_90, li_97, li_99, li_100, li_122, li_126, li_127, li_150, li_160, li_200, li_225, li_255, li_400, li_799, li_800, li_999, li_2400, li_3239, li_3240, li_1048575, li_1431655765, li_858993459, li_252645135, eqb_j, ltb_j, leb_j, inb_j, ix_j, ix_n, nz_b, nz_0, nz_1, eqb_b, bnot, vI_ne, vI_eq, gIL, gLI, gIR, gRI, gLR, gRL, Int.reduceLT, Int.reduceLE, Int.reduceEq, Int.reduceAdd, Int.reduceSub, Int.reduceMul, Int.reduceNeg, Int.reduceToNat, Nat.reduceEqDiff, reduceIte, if_neg, if_pos, gI_ne, hb]
      unfold fsV
      cases mbV d a i
      · exact ih2
      · rfl
  rw [fX13_firstSlot_d]
  simp only [fX13_firstSlot_0]
  exact key n fr FU rfl (by rw [FU_d]; omega)
theorem vA_up (d : Nat → Nat → Int) (a : Nat) (ha : (a : Int) < d 98 32) (hu : d 125 a = -1) (s : Nat) : vA (upS d a s) = vA d + 1 := by
  unfold vA
  rw [upS_ne _ _ _ (by omega)]
  exact (up_cnt d a s ha hu).1
theorem layM_in (mu : Int) (hmu : mu = 0 ∨ mu = 1) (y : Nat) (hy : y < 10) (k13 : Int32 → Int32 → Int32 → qM → Option (Int32 × qM)) (Q : Int32 → qM → Prop) (m0 : qM) (v0 : Int) (hv0 : 0 ≤ v0 ∧ v0 ≤ 40) : ∀ (r i g : Nat) (m : qM) (d : Nat → Nat → Int), DOk d → MDt m0 m d → i + r = (d 98 32).toNat → r < g → (∀ m', DOk (layIn mu y r i d) → MDt m0 m' (layIn mu y r i d) → wp (k13 (Zi ((vA (layIn mu y r i d) : Int) - v0)) (Zi mu) (Zi ((y : Int) - 1)) m') Q) → wp (fX13_layAll_17 k13 g (Zi ((vA d : Int) - v0)) (Zi mu) (Zi y) (Zi i) m) Q := by
  intro r
  induction r with
  | zero =>
    intro i g m d hD hm hi hg hk
    obtain ⟨g, rfl⟩ : ∃ g', g = g' + 1 := ⟨g - 1, by omega⟩
    have h1 := hm.1 98 32 (by unfold dP; omega)
    have h2 := hD.2.2.2.2.1
    have h3 := hD.2.2.2.2.2.1
    simp (disch := omega) only [fX13_layAll_17, qbI_s, qbL_s, qbV_s, qbR_s, qbR_n, qbN_s, qbN_n, qbIX_s, qbIX_n, qbVX_s, qbVX_n, cond_true, cond_false, cond_dec, jadd, jsub, jmul, jneg, li_0, li_1, li_2, li_3, li_4, li_5, li_6, li_7, li_8, li_9, li_10, li_14, li_15, li_16, li_19, li_20, li_24, li_30, li_31, li_32, li_39, li_40, li_48, li_57, li_59, li_60, li_63, li_65, li_80, li_81, li_90, li_97, li_99, li_100, li_122, li_126, li_127, li_150, li_160, li_200, li_225, li_255, li_400, li_799, li_800, li_999, li_2400, li_3239, li_3240, li_1048575, li_1431655765, li_858993459, li_252645135, eqb_j, ltb_j, leb_j, inb_j, ix_j, ix_n, nz_b, nz_0, nz_1, eqb_b, bnot, vI_ne, vI_eq, gIL, gLI, gIR, gRI, gLR, gRL, Int.reduceLT, Int.reduceLE, Int.reduceEq, Int.reduceAdd, Int.reduceSub, Int.reduceMul, Int.reduceNeg, Int.reduceToNat, Nat.reduceEqDiff, reduceIte, if_neg, if_pos, gI_ne, gIv 98, h1]
    rw [show (y : Int) + -1 = (y : Int) - 1 by omega]
    exact hk m hD hm
  | succ r ih =>
    intro i g m d hD hm hi hg hk
    obtain ⟨g, rfl⟩ : ∃ g', g = g' + 1 := ⟨g - 1, by omega⟩
    have q' : ∀ c k, (c = 98 ∧ k = 32 ∨ c = 99 ∨ 112 ≤ c ∧ c ≤ 126) → vI m c k = d c k := hm.1
    have h2 := hD.2.2.2.2.1
    have h3 := hD.2.2.2.2.2.1
    have hi' : (i : Int) < d 98 32 := by omega
    obtain ⟨k1, k2, k3, k4⟩ := hD.2.2.2.2.2.2 i hi'
    obtain ⟨f, hf⟩ : ∃ f : Nat, d 123 i = f := ⟨(d 123 i).toNat, by omega⟩
    have pF := hD.2.2.1 f (by omega)
    have hva := (val_r d hD).2.1
    have go : ∀ (m' : qM) (d' : Nat → Nat → Int), step1 mu y i d = d' → DOk d' → MDt m0 m' d' → d' 98 32 = d 98 32 → wp (fX13_layAll_17 k13 g (Zi ((vA d' : Int) - v0)) (Zi mu) (Zi y) (Zi ((i : Int) + 1)) m') Q := fun m' d' e1 e2 e3 e4 =>
      ih (i + 1) g m' d' e2 e3 (by rw [e4]; omega) (by omega) (fun m'' g1 g2 => by
        have := hk m''
        rw [layIn, e1] at this
        exact this g1 g2)
    by_cases c3 : d 125 i = -1
    · by_cases c1 : d 126 i = mu
      · by_cases c2 : d 121 f = y
        · have s1 : step1 mu y i d = upS d i (flD d i) := by unfold step1; rw [hf, Int.toNat_natCast, if_pos ⟨c1, c2, c3⟩]
          obtain ⟨wf, hwf⟩ : ∃ wf : Nat, d 119 f = wf := ⟨(d 119 f).toNat, by omega⟩
          obtain ⟨wn, hwn⟩ : ∃ wn : Nat, d 120 f = (wf + wn : Nat) - 1 := ⟨(d 120 f + 1 - wf).toNat, by omega⟩
          have fs1 := firstSlot_s m d hD hm.1 i wf wn hi' c3 (by omega)
          have fs2 : fX13_firstSlot (Zi i) (Zi 0) (Zi 19) m = some (Zi (fsV d i 0 20), m) := firstSlot_s m d hD hm.1 i 0 20 hi' c3 (by omega)
          rw [← hwn] at fs1
          have fl : flD d i = if fsV d i wf wn = -1 then fsV d i 0 20 else fsV d i wf wn := by
            unfold flD
            rw [hf, Int.toNat_natCast, hwf, Int.toNat_natCast, show (d 120 f + 1 - (wf : Int)).toNat = wn by omega]
          have flr := fl_r d hD i hi'
          have fsr : ∀ s n, s + n ≤ 20 → -1 ≤ fsV d i s n ∧ fsV d i s n ≤ 19 := fun s n hsn => by
            rcases fsV_spec d i n s with ⟨h1, -⟩ | ⟨j, h1, h2, h4, -⟩ <;> omega
          have fr1 := fsr wf wn (by omega)
          have fr2 := fsr 0 20 (by omega)
          have fin : ∀ s : Int, flD d i = s → -1 ≤ s ∧ s ≤ 19 → wp (fX13_layAll_75 (fX13_layAll_17 k13 g) (Zi ((vA d : Int) - v0)) (Zi mu) (Zi y) (Zi i) (Zi s) (Zi i) m) Q := fun s hs hs2 => by
            have hDu := hD.up i s hs2
            have hMu := hm.set i s hs2
            have go' := go (sI m 125 i (Zi s)) (upS d i s) (by rw [s1, hs]) hDu hMu (upS_ne _ _ _ (by omega))
            by_cases hz : s = -1
            · have e0 : vA (upS d i s) = vA d := by rw [hz, ← c3, upS_self]
              rw [e0] at go'
              simp (disch := omega) only [fX13_layAll_75, fX13_layAll_86, fX13_layAll_88, qbI_s, qbL_s, qbV_s, qbR_s, qbR_n, qbN_s, qbN_n, qbIX_s, qbIX_n, qbVX_s, qbVX_n, cond_true, cond_false, cond_dec, jadd, jsub, jmul, jneg, li_0, li_1, li_2, li_3, li_4, li_5, li_6, li_7, li_8, li_9, li_10, li_14, li_15, li_16, li_19, li_20, li_24, li_30, li_31, li_32, li_39, li_40, li_48, li_57, li_59, li_60, li_63, li_65, li_80, li_81, li_90, li_97, li_99, li_100, li_122, li_126, li_127, li_150, li_160, li_200, li_225, li_255, li_400, li_799, li_800, li_999, li_2400, li_3239, li_3240, li_1048575, li_1431655765, li_858993459, li_252645135, eqb_j, ltb_j, leb_j, inb_j, ix_j, ix_n, nz_b, nz_0, nz_1, eqb_b, bnot, vI_ne, vI_eq, gIL, gLI, gIR, gRI, gLR, gRL, Int.reduceLT, Int.reduceLE, Int.reduceEq, Int.reduceAdd, Int.reduceSub, Int.reduceMul, Int.reduceNeg, Int.reduceToNat, Nat.reduceEqDiff, reduceIte, if_neg, if_pos, gI_ne, gIv 125]
              rw [Int.add_zero]
              exact go'
            · obtain ⟨sn, hsn⟩ : ∃ sn : Nat, s = sn := ⟨s.toNat, by omega⟩
              have e0 : vA (upS d i s) = vA d + 1 := by rw [hsn]; exact vA_up d i hi' c3 sn
              rw [e0] at go'
              simp (disch := omega) only [fX13_layAll_75, fX13_layAll_86, fX13_layAll_88, qbI_s, qbL_s, qbV_s, qbR_s, qbR_n, qbN_s, qbN_n, qbIX_s, qbIX_n, qbVX_s, qbVX_n, cond_true, cond_false, cond_dec, jadd, jsub, jmul, jneg, li_0, li_1, li_2, li_3, li_4, li_5, li_6, li_7, li_8, li_9, li_10, li_14, li_15, li_16, li_19, li_20, li_24, li_30, li_31, li_32, li_39, li_40, li_48, li_57, li_59, li_60, li_63, li_65, li_80, li_81, li_90, li_97, li_99, li_100, li_122, li_126, li_127, li_150, li_160, li_200, li_225, li_255, li_400, li_799, li_800, li_999, li_2400, li_3239, li_3240, li_1048575, li_1431655765, li_858993459, li_252645135, eqb_j, ltb_j, leb_j, inb_j, ix_j, ix_n, nz_b, nz_0, nz_1, eqb_b, bnot, vI_ne, vI_eq, gIL, gLI, gIR, gRI, gLR, gRL, Int.reduceLT, Int.reduceLE, Int.reduceEq, Int.reduceAdd, Int.reduceSub, Int.reduceMul, Int.reduceNeg, Int.reduceToNat, Nat.reduceEqDiff, reduceIte, if_neg, if_pos, gI_ne, gIv 125]
              rw [show (vA d : Int) - v0 + 1 = ((vA d + 1 : Nat) : Int) - v0 by omega]
              exact go'
          by_cases hz : fsV d i wf wn = -1
          · rw [if_pos hz] at fl
            have fin' := fin _ fl fr2
            rcases hmu with hm0 | hm0
            · subst hm0
              simp (disch := omega) only [fX13_layAll_17, fX13_layAll_42, qbI_s, qbL_s, qbV_s, qbR_s, qbR_n, qbN_s, qbN_n, qbIX_s, qbIX_n, qbVX_s, qbVX_n, cond_true, cond_false, cond_dec, jadd, jsub, jmul, jneg, li_0, li_1, li_2, li_3, li_4, li_5, li_6, li_7, li_8, li_9, li_10, li_14, li_15, li_16, li_19, li_20, li_24, li_30, li_31, li_32, li_39, li_40, li_48, li_57, li_59, li_60, li_63, li_65, li_80, li_81, li_90, li_97, li_99, li_100, li_122, li_126, li_127, li_150, li_160, li_200, li_225, li_255, li_400, li_799, li_800, li_999, li_2400, li_3239, li_3240, li_1048575, li_1431655765, li_858993459, li_252645135, eqb_j, ltb_j, leb_j, inb_j, ix_j, ix_n, nz_b, nz_0, nz_1, eqb_b, bnot, vI_ne, vI_eq, gIL, gLI, gIR, gRI, gLR, gRL, Int.reduceLT, Int.reduceLE, Int.reduceEq, Int.reduceAdd, Int.reduceSub, Int.reduceMul, Int.reduceNeg, Int.reduceToNat, Nat.reduceEqDiff, reduceIte, if_neg, if_pos, gI_ne, gIv 98, gIv 125, gIv 126, gIv 123, gIv 121, gIv 119, gIv 120, q', hf, c1, c2, hwf, fs1, fs2]
              exact fin'
            · subst hm0
              simp (disch := omega) only [fX13_layAll_17, fX13_layAll_42, qbI_s, qbL_s, qbV_s, qbR_s, qbR_n, qbN_s, qbN_n, qbIX_s, qbIX_n, qbVX_s, qbVX_n, cond_true, cond_false, cond_dec, jadd, jsub, jmul, jneg, li_0, li_1, li_2, li_3, li_4, li_5, li_6, li_7, li_8, li_9, li_10, li_14, li_15, li_16, li_19, li_20, li_24, li_30, li_31, li_32, li_39, li_40, li_48, li_57, li_59, li_60, li_63, li_65, li_80, li_81, li_90, li_97, li_99, li_100, li_122, li_126, li_127, li_150, li_160, li_200, li_225, li_255, li_400, li_799, li_800, li_999, li_2400, li_3239, li_3240, li_1048575, li_1431655765, li_858993459, li_252645135, eqb_j, ltb_j, leb_j, inb_j, ix_j, ix_n, nz_b, nz_0, nz_1, eqb_b, bnot, vI_ne, vI_eq, gIL, gLI, gIR, gRI, gLR, gRL, Int.reduceLT, Int.reduceLE, Int.reduceEq, Int.reduceAdd, Int.reduceSub, Int.reduceMul, Int.reduceNeg, Int.reduceToNat, Nat.reduceEqDiff, reduceIte, if_neg, if_pos, gI_ne, gIv 98, gIv 125, gIv 126, gIv 123, gIv 121, gIv 119, gIv 120, q', hf, c1, c2, hwf, fs1, fs2]
              exact fin'
          · rw [if_neg hz] at fl
            have fin' := fin _ fl fr1
            rcases hmu with hm0 | hm0
            · subst hm0
              simp (disch := omega) only [fX13_layAll_17, fX13_layAll_42, qbI_s, qbL_s, qbV_s, qbR_s, qbR_n, qbN_s, qbN_n, qbIX_s, qbIX_n, qbVX_s, qbVX_n, cond_true, cond_false, cond_dec, jadd, jsub, jmul, jneg, li_0, li_1, li_2, li_3, li_4, li_5, li_6, li_7, li_8, li_9, li_10, li_14, li_15, li_16, li_19, li_20, li_24, li_30, li_31, li_32, li_39, li_40, li_48, li_57, li_59, li_60, li_63, li_65, li_80, li_81, li_90, li_97, li_99, li_100, li_122, li_126, li_127, li_150, li_160, li_200, li_225, li_255, li_400, li_799, li_800, li_999, li_2400, li_3239, li_3240, li_1048575, li_1431655765, li_858993459, li_252645135, eqb_j, ltb_j, leb_j, inb_j, ix_j, ix_n, nz_b, nz_0, nz_1, eqb_b, bnot, vI_ne, vI_eq, gIL, gLI, gIR, gRI, gLR, gRL, Int.reduceLT, Int.reduceLE, Int.reduceEq, Int.reduceAdd, Int.reduceSub, Int.reduceMul, Int.reduceNeg, Int.reduceToNat, Nat.reduceEqDiff, reduceIte, if_neg, if_pos, gI_ne, gIv 98, gIv 125, gIv 126, gIv 123, gIv 121, gIv 119, gIv 120, q', hf, c1, c2, hwf, fs1]
              exact fin'
            · subst hm0
              simp (disch := omega) only [fX13_layAll_17, fX13_layAll_42, qbI_s, qbL_s, qbV_s, qbR_s, qbR_n, qbN_s, qbN_n, qbIX_s, qbIX_n, qbVX_s, qbVX_n, cond_true, cond_false, cond_dec, jadd, jsub, jmul, jneg, li_0, li_1, li_2, li_3, li_4, li_5, li_6, li_7, li_8, li_9, li_10, li_14, li_15, li_16, li_19, li_20, li_24, li_30, li_31, li_32, li_39, li_40, li_48, li_57, li_59, li_60, li_63, li_65, li_80, li_81, li_90, li_97, li_99, li_100, li_122, li_126, li_127, li_150, li_160, li_200, li_225, li_255, li_400, li_799, li_800, li_999, li_2400, li_3239, li_3240, li_1048575, li_1431655765, li_858993459, li_252645135, eqb_j, ltb_j, leb_j, inb_j, ix_j, ix_n, nz_b, nz_0, nz_1, eqb_b, bnot, vI_ne, vI_eq, gIL, gLI, gIR, gRI, gLR, gRL, Int.reduceLT, Int.reduceLE, Int.reduceEq, Int.reduceAdd, Int.reduceSub, Int.reduceMul, Int.reduceNeg, Int.reduceToNat, Nat.reduceEqDiff, reduceIte, if_neg, if_pos, gI_ne, gIv 98, gIv 125, gIv 126, gIv 123, gIv 121, gIv 119, gIv 120, q', hf, c1, c2, hwf, fs1]
              exact fin'
        · have go' := go m d (by unfold step1; rw [hf, Int.toNat_natCast, if_neg (fun z => c2 z.2.1)]) hD hm rfl
          rcases hmu with hm0 | hm0
          · subst hm0
            simp (disch := omega) only [fX13_layAll_17, fX13_layAll_42, fX13_layAll_88, qbI_s, qbL_s, qbV_s, qbR_s, qbR_n, qbN_s, qbN_n, qbIX_s, qbIX_n, qbVX_s, qbVX_n, cond_true, cond_false, cond_dec, jadd, jsub, jmul, jneg, li_0, li_1, li_2, li_3, li_4, li_5, li_6, li_7, li_8, li_9, li_10, li_14, li_15, li_16, li_19, li_20, li_24, li_30, li_31, li_32, li_39, li_40, li_48, li_57, li_59, li_60, li_63, li_65, li_80, li_81, li_90, li_97, li_99, li_100, li_122, li_126, li_127, li_150, li_160, li_200, li_225, li_255, li_400, li_799, li_800, li_999, li_2400, li_3239, li_3240, li_1048575, li_1431655765, li_858993459, li_252645135, eqb_j, ltb_j, leb_j, inb_j, ix_j, ix_n, nz_b, nz_0, nz_1, eqb_b, bnot, vI_ne, vI_eq, gIL, gLI, gIR, gRI, gLR, gRL, Int.reduceLT, Int.reduceLE, Int.reduceEq, Int.reduceAdd, Int.reduceSub, Int.reduceMul, Int.reduceNeg, Int.reduceToNat, Nat.reduceEqDiff, reduceIte, if_neg, if_pos, gI_ne, gIv 98, gIv 125, gIv 126, gIv 123, gIv 121, q', hf, c1]
            exact go'
          · subst hm0
            simp (disch := omega) only [fX13_layAll_17, fX13_layAll_42, fX13_layAll_88, qbI_s, qbL_s, qbV_s, qbR_s, qbR_n, qbN_s, qbN_n, qbIX_s, qbIX_n, qbVX_s, qbVX_n, cond_true, cond_false, cond_dec, jadd, jsub, jmul, jneg, li_0, li_1, li_2, li_3, li_4, li_5, li_6, li_7, li_8, li_9, li_10, li_14, li_15, li_16, li_19, li_20, li_24, li_30, li_31, li_32, li_39, li_40, li_48, li_57, li_59, li_60, li_63, li_65, li_80, li_81, li_90, li_97, li_99, li_100, li_122, li_126, li_127, li_150, li_160, li_200, li_225, li_255, li_400, li_799, li_800, li_999, li_2400, li_3239, li_3240, li_1048575, li_1431655765, li_858993459, li_252645135, eqb_j, ltb_j, leb_j, inb_j, ix_j, ix_n, nz_b, nz_0, nz_1, eqb_b, bnot, vI_ne, vI_eq, gIL, gLI, gIR, gRI, gLR, gRL, Int.reduceLT, Int.reduceLE, Int.reduceEq, Int.reduceAdd, Int.reduceSub, Int.reduceMul, Int.reduceNeg, Int.reduceToNat, Nat.reduceEqDiff, reduceIte, if_neg, if_pos, gI_ne, gIv 98, gIv 125, gIv 126, gIv 123, gIv 121, q', hf, c1]
            exact go'
      · have go' := go m d (by unfold step1; rw [if_neg (fun z => c1 z.1)]) hD hm rfl
        rcases hmu with hm0 | hm0
        · subst hm0
          simp (disch := omega) only [fX13_layAll_17, fX13_layAll_42, fX13_layAll_88, qbI_s, qbL_s, qbV_s, qbR_s, qbR_n, qbN_s, qbN_n, qbIX_s, qbIX_n, qbVX_s, qbVX_n, cond_true, cond_false, cond_dec, jadd, jsub, jmul, jneg, li_0, li_1, li_2, li_3, li_4, li_5, li_6, li_7, li_8, li_9, li_10, li_14, li_15, li_16, li_19, li_20, li_24, li_30, li_31, li_32, li_39, li_40, li_48, li_57, li_59, li_60, li_63, li_65, li_80, li_81, li_90, li_97, li_99, li_100, li_122, li_126, li_127, li_150, li_160, li_200, li_225, li_255, li_400, li_799, li_800, li_999, li_2400, li_3239, li_3240, li_1048575, li_1431655765, li_858993459, li_252645135, eqb_j, ltb_j, leb_j, inb_j, ix_j, ix_n, nz_b, nz_0, nz_1, eqb_b, bnot, vI_ne, vI_eq, gIL, gLI, gIR, gRI, gLR, gRL, Int.reduceLT, Int.reduceLE, Int.reduceEq, Int.reduceAdd, Int.reduceSub, Int.reduceMul, Int.reduceNeg, Int.reduceToNat, Nat.reduceEqDiff, reduceIte, if_neg, if_pos, gI_ne, gIv 98, gIv 125, gIv 126, gIv 123, q', hf]
          exact go'
        · subst hm0
          simp (disch := omega) only [fX13_layAll_17, fX13_layAll_42, fX13_layAll_88, qbI_s, qbL_s, qbV_s, qbR_s, qbR_n, qbN_s, qbN_n, qbIX_s, qbIX_n, qbVX_s, qbVX_n, cond_true, cond_false, cond_dec, jadd, jsub, jmul, jneg, li_0, li_1, li_2, li_3, li_4, li_5, li_6, li_7, li_8, li_9, li_10, li_14, li_15, li_16, li_19, li_20, li_24, li_30, li_31, li_32, li_39, li_40, li_48, li_57, li_59, li_60, li_63, li_65, li_80, li_81, li_90, li_97, li_99, li_100, li_122, li_126, li_127, li_150, li_160, li_200, li_225, li_255, li_400, li_799, li_800, li_999, li_2400, li_3239, li_3240, li_1048575, li_1431655765, li_858993459, li_252645135, eqb_j, ltb_j, leb_j, inb_j, ix_j, ix_n, nz_b, nz_0, nz_1, eqb_b, bnot, vI_ne, vI_eq, gIL, gLI, gIR, gRI, gLR, gRL, Int.reduceLT, Int.reduceLE, Int.reduceEq, Int.reduceAdd, Int.reduceSub, Int.reduceMul, Int.reduceNeg, Int.reduceToNat, Nat.reduceEqDiff, reduceIte, if_neg, if_pos, gI_ne, gIv 98, gIv 125, gIv 126, gIv 123, q', hf]
          exact go'
    · have go' := go m d (by unfold step1; rw [if_neg (fun z => c3 z.2.2)]) hD hm rfl
      simp (disch := omega) only [fX13_layAll_17, fX13_layAll_88, qbI_s, qbL_s, qbV_s, qbR_s, qbR_n, qbN_s, qbN_n, qbIX_s, qbIX_n, qbVX_s, qbVX_n, cond_true, cond_false, cond_dec, jadd, jsub, jmul, jneg, li_0, li_1, li_2, li_3, li_4, li_5, li_6, li_7, li_8, li_9, li_10, li_14, li_15, li_16, li_19, li_20, li_24, li_30, li_31, li_32, li_39, li_40, li_48, li_57, li_59, li_60, li_63, li_65, li_80, li_81, li_90, li_97, li_99, li_100, li_122, li_126, li_127, li_150, li_160, li_200, li_225, li_255, li_400, li_799, li_800, li_999, li_2400, li_3239, li_3240, li_1048575, li_1431655765, li_858993459, li_252645135, eqb_j, ltb_j, leb_j, inb_j, ix_j, ix_n, nz_b, nz_0, nz_1, eqb_b, bnot, vI_ne, vI_eq, gIL, gLI, gIR, gRI, gLR, gRL, Int.reduceLT, Int.reduceLE, Int.reduceEq, Int.reduceAdd, Int.reduceSub, Int.reduceMul, Int.reduceNeg, Int.reduceToNat, Nat.reduceEqDiff, reduceIte, if_neg, if_pos, gI_ne, gIv 98, gIv 125, q']
      exact go'
theorem layM_ys (mu : Int) (hmu : mu = 0 ∨ mu = 1) (k9 : Int32 → Int32 → qM → Option (Int32 × qM)) (Q : Int32 → qM → Prop) (m0 : qM) (v0 : Int) (hv0 : 0 ≤ v0 ∧ v0 ≤ 40) : ∀ (n g : Nat) (m : qM) (d : Nat → Nat → Int), n ≤ 10 → n < g → DOk d → MDt m0 m d → (∀ m', DOk (layYs mu n d) → MDt m0 m' (layYs mu n d) → wp (k9 (Zi ((vA (layYs mu n d) : Int) - v0)) (Zi (mu - 1)) m') Q) → wp (fX13_layAll_13 k9 g (Zi ((vA d : Int) - v0)) (Zi mu) (Zi ((n : Int) - 1)) m) Q := by
  intro n
  induction n with
  | zero =>
    intro g m d hn hg hD hm hk
    obtain ⟨g, rfl⟩ : ∃ g', g = g' + 1 := ⟨g - 1, by omega⟩
    simp (disch := omega) only [fX13_layAll_13, qbI_s, qbL_s, qbV_s, qbR_s, qbR_n, qbN_s, qbN_n, qbIX_s, qbIX_n, qbVX_s, qbVX_n, cond_true, cond_false, cond_dec, jadd, jsub, jmul, jneg, li_0, li_1, li_2, li_3, li_4, li_5, li_6, li_7, li_8, li_9, li_10, li_14, li_15, li_16, li_19, li_20, li_24, li_30, li_31, li_32, li_39, li_40, li_48, li_57, li_59, li_60, li_63, li_65, li_80, li_81, li_90, li_97, li_99, li_100, li_122, li_126, li_127, li_150, li_160, li_200, li_225, li_255, li_400, li_799, li_800, li_999, li_2400, li_3239, li_3240, li_1048575, li_1431655765, li_858993459, li_252645135, eqb_j, ltb_j, leb_j, inb_j, ix_j, ix_n, nz_b, nz_0, nz_1, eqb_b, bnot, vI_ne, vI_eq, gIL, gLI, gIR, gRI, gLR, gRL, Int.reduceLT, Int.reduceLE, Int.reduceEq, Int.reduceAdd, Int.reduceSub, Int.reduceMul, Int.reduceNeg, Int.reduceToNat, Nat.reduceEqDiff, reduceIte, if_neg, if_pos, gI_ne]
    rw [show mu + -1 = mu - 1 by omega]
    exact hk m hD hm
  | succ n ih =>
    intro g m d hn hg hD hm hk
    obtain ⟨g, rfl⟩ : ∃ g', g = g' + 1 := ⟨g - 1, by omega⟩
    rw [show ((n + 1 : Nat) : Int) - 1 = (n : Int) by omega]
    have h3 := layM_in mu hmu n (by omega) (fX13_layAll_13 k9 g) Q m0 v0 hv0 (d 98 32).toNat 0 FU m d hD hm (by omega) (by have := hD.2.2.2.2.2.1; rw [FU_d]; omega) (fun m' g1 g2 => ih g m' _ (by omega) (by omega) g1 g2 (fun m'' g3 g4 => by
      have := hk m''
      rw [layYs] at this
      exact this g3 g4))
    simp (disch := omega) only [fX13_layAll_13, qbI_s, qbL_s, qbV_s, qbR_s, qbR_n, qbN_s, qbN_n, qbIX_s, qbIX_n, qbVX_s, qbVX_n, cond_true, cond_false, cond_dec, jadd, jsub, jmul, jneg, li_0, li_1, li_2, li_3, li_4, li_5, li_6, li_7, li_8, li_9, li_10, li_14, li_15, li_16, li_19, li_20, li_24, li_30, li_31, li_32, li_39, li_40, li_48, li_57, li_59, li_60, li_63, li_65, li_80, li_81, li_90, li_97, li_99, li_100, li_122, li_126, li_127, li_150, li_160, li_200, li_225, li_255, li_400, li_799, li_800, li_999, li_2400, li_3239, li_3240, li_1048575, li_1431655765, li_858993459, li_252645135, eqb_j, ltb_j, leb_j, inb_j, ix_j, ix_n, nz_b, nz_0, nz_1, eqb_b, bnot, vI_ne, vI_eq, gIL, gLI, gIR, gRI, gLR, gRL, Int.reduceLT, Int.reduceLE, Int.reduceEq, Int.reduceAdd, Int.reduceSub, Int.reduceMul, Int.reduceNeg, Int.reduceToNat, Nat.reduceEqDiff, reduceIte, if_neg, if_pos, gI_ne]
    exact h3
theorem layAllM_s (m : qM) (d : Nat → Nat → Int) (hD : DOk d) (q : ∀ c k, dP c k → vI m c k = d c k) (hb : vI m 98 33 = 0) : wp (fX13_layAll m) (fun x m' => x = Zi ((vA (lay2 d) : Int) - vA d) ∧ DOk (lay2 d) ∧ MDt m m' (lay2 d)) := by
  have hva := (val_r d hD).2.1
  obtain ⟨g, hg⟩ := FU_s 2 (by decide)
  rw [fX13_layAll_d]
  simp (disch := omega) only [fX13_layAll_0, qbI_s, qbL_s, qbV_s, qbR_s, qbR_n, qbN_s, qbN_n, qbIX_s, qbIX_n, qbVX_s, qbVX_n, cond_true, cond_false, cond_dec, jadd, jsub, jmul, jneg, li_0, li_1, li_2, li_3, li_4, li_5, li_6, li_7, li_8, li_9, li_10, li_14, li_15, li_16, li_19, li_20, li_24, li_30, li_31, li_32, li_39, li_40, li_48, li_57, li_59, li_60, li_63, li_65, li_80, li_81, li_90, li_97, li_99, li_100, li_122, li_126, li_127, li_150, li_160, li_200, li_225, li_255, li_400, li_799, li_800, li_999, li_2400, li_3239, li_3240, li_1048575, li_1431655765, li_858993459, li_252645135, eqb_j, ltb_j, leb_j, inb_j, ix_j, ix_n, nz_b, nz_0, nz_1, eqb_b, bnot, vI_ne, vI_eq, gIL, gLI, gIR, gRI, gLR, gRL, Int.reduceLT, Int.reduceLE, Int.reduceEq, Int.reduceAdd, Int.reduceSub, Int.reduceMul, Int.reduceNeg, Int.reduceToNat, Nat.reduceEqDiff, reduceIte, if_neg, if_pos, gI_ne, gIv 98, hb, hg, fX13_layAll_9]
  have h2 : ∀ m', DOk (layYs 1 10 d) → MDt m m' (layYs 1 10 d) → wp (fX13_layAll_9 (g + 2) (Zi ((vA (layYs 1 10 d) : Int) - vA d)) (Zi (1 - 1)) m') (fun x m' => x = Zi ((vA (lay2 d) : Int) - vA d) ∧ DOk (lay2 d) ∧ MDt m m' (lay2 d)) := fun m' g1 g2 => by
    have h4 := layM_ys 0 (Or.inl rfl) (fX13_layAll_9 (g + 1)) (fun x m' => x = Zi ((vA (lay2 d) : Int) - vA d) ∧ DOk (lay2 d) ∧ MDt m m' (lay2 d)) m (vA d) (by omega) 10 FU m' (layYs 1 10 d) (by omega) (by rw [FU_d]; omega) g1 g2 (fun m'' g3 g4 => by
      refine wp_e (x := Zi ((vA (lay2 d) : Int) - vA d)) (m := m'') ?_ ⟨rfl, g3, g4⟩
      simp (disch := omega) only [fX13_layAll_9, qbI_s, qbL_s, qbV_s, qbR_s, qbR_n, qbN_s, qbN_n, qbIX_s, qbIX_n, qbVX_s, qbVX_n, cond_true, cond_false, cond_dec, jadd, jsub, jmul, jneg, li_0, li_1, li_2, li_3, li_4, li_5, li_6, li_7, li_8, li_9, li_10, li_14, li_15, li_16, li_19, li_20, li_24, li_30, li_31, li_32, li_39, li_40, li_48, li_57, li_59, li_60, li_63, li_65, li_80, li_81, li_90, li_97, li_99, li_100, li_122, li_126, li_127, li_150, li_160, li_200, li_225, li_255, li_400, li_799, li_800, li_999, li_2400, li_3239, li_3240, li_1048575, li_1431655765, li_858993459, li_252645135, eqb_j, ltb_j, leb_j, inb_j, ix_j, ix_n, nz_b, nz_0, nz_1, eqb_b, bnot, vI_ne, vI_eq, gIL, gLI, gIR, gRI, gLR, gRL, Int.reduceLT, Int.reduceLE, Int.reduceEq, Int.reduceAdd, Int.reduceSub, Int.reduceMul, Int.reduceNeg, Int.reduceToNat, Nat.reduceEqDiff, reduceIte, if_neg, if_pos, gI_ne]
      rfl)
    simp (disch := omega) only [fX13_layAll_9, qbI_s, qbL_s, qbV_s, qbR_s, qbR_n, qbN_s, qbN_n, qbIX_s, qbIX_n, qbVX_s, qbVX_n, cond_true, cond_false, cond_dec, jadd, jsub, jmul, jneg, li_0, li_1, li_2, li_3, li_4, li_5, li_6, li_7, li_8, li_9, li_10, li_14, li_15, li_16, li_19, li_20, li_24, li_30, li_31, li_32, li_39, li_40, li_48, li_57, li_59, li_60, li_63, li_65, li_80, li_81, li_90, li_97, li_99, li_100, li_122, li_126, li_127, li_150, li_160, li_200, li_225, li_255, li_400, li_799, li_800, li_999, li_2400, li_3239, li_3240, li_1048575, li_1431655765, li_858993459, li_252645135, eqb_j, ltb_j, leb_j, inb_j, ix_j, ix_n, nz_b, nz_0, nz_1, eqb_b, bnot, vI_ne, vI_eq, gIL, gLI, gIR, gRI, gLR, gRL, Int.reduceLT, Int.reduceLE, Int.reduceEq, Int.reduceAdd, Int.reduceSub, Int.reduceMul, Int.reduceNeg, Int.reduceToNat, Nat.reduceEqDiff, reduceIte, if_neg, if_pos, gI_ne]
    exact h4
  have h5 := layM_ys 1 (Or.inr rfl) (fX13_layAll_9 (g + 2)) (fun x m' => x = Zi ((vA (lay2 d) : Int) - vA d) ∧ DOk (lay2 d) ∧ MDt m m' (lay2 d)) m (vA d) (by omega) 10 FU m d (by omega) (by rw [FU_d]; omega) hD ⟨q, Fr.rf m⟩ h2
  rw [show (vA d : Int) - vA d = 0 by omega] at h5
  rw [← hg]
  exact h5
theorem op_layAll (m : qM) (hR : R0 m) : QOp m fX11_layAll fX13_layAll := by
  have hR' := hR
  obtain ⟨⟨hT, hRd, hRu, hFo, hHa⟩, ⟨hPt, hPf, hAp, hWk⟩, ⟨hAs, hPa, hCl, hDi, hBi, hCn⟩, ⟨hTe, hBe, hNo, hPo⟩⟩ := hR'
  have b1 := hBe.1
  by_cases hg : vI m 98 33 = 0
  · have hC := CAll.of hR
    obtain ⟨x, m1, g1, hx, c1, f1⟩ := layEvery_s m (vI m) hC
    have q1 : ∀ c k, ¬ (c = 58 ∧ 13 ≤ k ∧ k ≤ 16 ∨ c = 62 ∨ 64 ≤ c ∧ c ≤ 67) → gI m1 c k = gI m c k := f1.1
    obtain ⟨y, m2, g2, hy, d2, n1, f2⟩ := layAllM_s m1 (vI m) (DOk.of hC) (fun c k hc => vI_of (q1 c k (by unfold dP at hc; omega))) (by rw [vI_of (q1 98 33 (by omega))]; exact hg)
    have q2 : ∀ c k, ¬ (c = 125) → gI m2 c k = gI m1 c k := f2.1
    have hC2 : CAll m2 (vI m2) := c1.congr (fun c k hc => q2 c k (by omega)) n1
    refine QOp.ok (x := x) (y := y) (m1 := m1) (m2 := m2) ?_ g2 (by rw [hx, hy]) (R0.of_C hR (fun c k hc => by rw [q2 c k (by omega), q1 c k (by omega)]) (f2.2.2.trans f1.2.2) hC2) (Or.inl fun j hj => ?_)
    · rw [fX11_layAll_d]
      simp (disch := omega) only [fX11_layAll_0, fX11_layAll_8, qbI_s, qbL_s, qbV_s, qbR_s, qbR_n, qbN_s, qbN_n, qbIX_s, qbIX_n, qbVX_s, qbVX_n, cond_true, cond_false, cond_dec, jadd, jsub, jmul, jneg, li_0, li_1, li_2, li_3, li_4, li_5, li_6, li_7, li_8, li_9, li_10, li_14, li_15, li_16, li_19, li_20, li_24, li_30, li_31, li_32, li_39, li_40, li_48, li_57, li_59, li_60, li_63, li_65, li_80, li_81, li_90, li_97, li_99, li_100, li_122, li_126, li_127, li_150, li_160, li_200, li_225, li_255, li_400, li_799, li_800, li_999, li_2400, li_3239, li_3240, li_1048575, li_1431655765, li_858993459, li_252645135, eqb_j, ltb_j, leb_j, inb_j, ix_j, ix_n, nz_b, nz_0, nz_1, eqb_b, bnot, vI_ne, vI_eq, gIL, gLI, gIR, gRI, gLR, gRL, Int.reduceLT, Int.reduceLE, Int.reduceEq, Int.reduceAdd, Int.reduceSub, Int.reduceMul, Int.reduceNeg, Int.reduceToNat, Nat.reduceEqDiff, reduceIte, if_neg, if_pos, gI_ne, gIv 0, b1, hg, g1]
    · rw [vI_of (q2 83 j (by omega)), vI_of (q1 83 j (by omega))]
      exact (hBe.2.2 hg).2 j hj
  · have b2 := hBe.2.1
    refine QOp.same (x := Zi (-4)) hR ?_ ?_
    · rw [fX11_layAll_d]
      simp (disch := omega) only [fX11_layAll_0, fX11_layAll_8, qbI_s, qbL_s, qbV_s, qbR_s, qbR_n, qbN_s, qbN_n, qbIX_s, qbIX_n, qbVX_s, qbVX_n, cond_true, cond_false, cond_dec, jadd, jsub, jmul, jneg, li_0, li_1, li_2, li_3, li_4, li_5, li_6, li_7, li_8, li_9, li_10, li_14, li_15, li_16, li_19, li_20, li_24, li_30, li_31, li_32, li_39, li_40, li_48, li_57, li_59, li_60, li_63, li_65, li_80, li_81, li_90, li_97, li_99, li_100, li_122, li_126, li_127, li_150, li_160, li_200, li_225, li_255, li_400, li_799, li_800, li_999, li_2400, li_3239, li_3240, li_1048575, li_1431655765, li_858993459, li_252645135, eqb_j, ltb_j, leb_j, inb_j, ix_j, ix_n, nz_b, nz_0, nz_1, eqb_b, bnot, vI_ne, vI_eq, gIL, gLI, gIR, gRI, gLR, gRL, Int.reduceLT, Int.reduceLE, Int.reduceEq, Int.reduceAdd, Int.reduceSub, Int.reduceMul, Int.reduceNeg, Int.reduceToNat, Nat.reduceEqDiff, reduceIte, if_neg, if_pos, gI_ne, gIv 0, b1]
    · rw [fX13_layAll_d]
      simp (disch := omega) only [fX13_layAll_0, qbI_s, qbL_s, qbV_s, qbR_s, qbR_n, qbN_s, qbN_n, qbIX_s, qbIX_n, qbVX_s, qbVX_n, cond_true, cond_false, cond_dec, jadd, jsub, jmul, jneg, li_0, li_1, li_2, li_3, li_4, li_5, li_6, li_7, li_8, li_9, li_10, li_14, li_15, li_16, li_19, li_20, li_24, li_30, li_31, li_32, li_39, li_40, li_48, li_57, li_59, li_60, li_63, li_65, li_80, li_81, li_90, li_97, li_99, li_100, li_122, li_126, li_127, li_150, li_160, li_200, li_225, li_255, li_400, li_799, li_800, li_999, li_2400, li_3239, li_3240, li_1048575, li_1431655765, li_858993459, li_252645135, eqb_j, ltb_j, leb_j, inb_j, ix_j, ix_n, nz_b, nz_0, nz_1, eqb_b, bnot, vI_ne, vI_eq, gIL, gLI, gIR, gRI, gLR, gRL, Int.reduceLT, Int.reduceLE, Int.reduceEq, Int.reduceAdd, Int.reduceSub, Int.reduceMul, Int.reduceNeg, Int.reduceToNat, Nat.reduceEqDiff, reduceIte, if_neg, if_pos, gI_ne, gIv 98]
