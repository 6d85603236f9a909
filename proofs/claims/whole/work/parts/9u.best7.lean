/-! the reference lays a few best; which asks are picked -/
theorem layBest_s {d0 : Dt} {p : Nat → Nat} {al : Nat → Bool} {N : Nat} (hP : Pk d0 p N) (m : qM) (hCl : CClash m d0) (q : ∀ c k, dP c k → vI m c k = d0 c k) (h43 : vI m 98 43 = N) (h129 : ∀ j, j < N → vI m 129 j = p j) (fr : Nat) (hfr : fr ≤ 20) (hal : ∀ s, al s = decide (fr ≤ s)) : wp (fX13_layBest (Zi fr) m) (fun y m' => y = Zi (cntL (enB p al N 0 d0 (-1, d0)).2 p N) ∧ (∀ c k, dP c k → vI m' c k = (enB p al N 0 d0 (-1, d0)).2 c k) ∧ Fr (fun c k => c = 125 ∨ c = 127 ∨ c = 128 ∨ c = 130 ∨ c = 98 ∧ 44 ≤ k ∧ k ≤ 46) m m') := by
  have n4 := hP.1
  have h40 := hP.2.1.2.2.2.2.2.1
  have qb0 : qb (Zi 0) = true := by rw [qb_d]; rfl
  have hB := enB_ok (d0 := d0) (p := p) (al := al) (N := N) N 0 d0 (-1, d0) (by omega) rfl (Or.inl rfl)
  have hge := enB_ge p al N 0 d0 (-1, d0)
  have hw := wD_r d0 hP.2.1
  have F0 : Fr (fun c k => c = 125 ∨ c = 127 ∨ c = 128 ∨ c = 130 ∨ c = 98 ∧ 44 ≤ k ∧ k ≤ 46) m (sI m 98 46 (Zi 0)) := (Fr.rf m).wI 98 46 _ (by omega)
  have M0 : MFw N p d0 m d0 (-1, d0) (sI m 98 46 (Zi 0)) := ⟨fun c k hc => by
    rw [vI_of (show gI (sI m 98 46 (Zi 0)) c k = gI m c k by rw [gI_sI, if_neg (by unfold dP at hc; omega)])]
    exact q c k hc, by
    rw [if_pos rfl]
    simp (disch := omega) only [qbI_s, qbL_s, qbV_s, qbR_s, qbR_n, qbN_s, qbN_n, qbIX_s, qbIX_n, qbVX_s, qbVX_n, cond_true, cond_false, cond_dec, jadd, jsub, jmul, jneg, li_0, li_1, li_2, li_3, li_4, li_5, li_6, li_7, li_8, li_9, li_10, li_14, li_15, li_16, li_19, li_20, li_24, li_30, li_31, li_32, li_39, li_40, li_48, li_57, li_59, li_60, li_63, li_65, li_80, li_81, li_90, li_97, li_99, li_100, li_122, li_126, li_127, li_150, li_160, li_200, li_225, li_255, li_400, li_799, li_800, li_999, li_2400, li_3239, li_3240, li_1048575, li_1431655765, li_858993459, li_252645135, eqb_j, ltb_j, leb_j, inb_j, ix_j, ix_n, nz_b, nz_0, nz_1, eqb_b, bnot, vI_ne, vI_eq, gIL, gLI, gIR, gRI, gLR, gRL, Int.reduceLT, Int.reduceLE, Int.reduceEq, Int.reduceAdd, Int.reduceSub, Int.reduceMul, Int.reduceNeg, Int.reduceToNat, Nat.reduceEqDiff, reduceIte, if_neg, if_pos, gI_ne], fun h => absurd rfl h, F0⟩
  obtain ⟨x1, m1, g1, t1, t2, t3, t4⟩ := few_s hP m hCl h43 h129 fr hfr hal N 0 FG (sI m 98 46 (Zi 0)) d0 (-1, d0) (by omega) (by rw [FG_d]; omega) rfl (Or.inl rfl) M0
  rw [Int.sub_self, Int.sub_self] at g1
  generalize hb : enB p al N 0 d0 (-1, d0) = B at *
  have hne : B.1 ≠ -1 := by omega
  have hRB : Reach d0 p al N B.2 := by
    rcases hB with h | h
    · exact absurd h hne
    · exact h.2
  have fB := hRB.f hP (Nat.le_refl _)
  obtain ⟨-, -, -, t130⟩ := t3 hne
  have key : ∀ (r j g : Nat) (w : qM), j + r = N → r < g → Fr (fun c _ => c = 125) m1 w → (∀ k, (∀ j', j' < N → k ≠ p j') → vI w 125 k = d0 125 k) → (∀ j', j' < j → vI w 125 (p j') = B.2 125 (p j')) → wp (fX13_layBest_13 g (Zi (cntL B.2 p j)) (Zi j) w) (fun y m' => y = Zi (cntL B.2 p N) ∧ Fr (fun c _ => c = 125) m1 m' ∧ (∀ k, (∀ j', j' < N → k ≠ p j') → vI m' 125 k = d0 125 k) ∧ (∀ j', j' < N → vI m' 125 (p j') = B.2 125 (p j'))) := by
    intro r
    induction r with
    | zero =>
      intro j g w hj hg hF h1 h2
      obtain ⟨g, rfl⟩ : ∃ g', g = g' + 1 := ⟨g - 1, by omega⟩
      have hj' : j = N := by omega
      subst hj'
      have q43 : vI w 98 43 = j := by rw [hF.v 98 43 (by omega), t4.v 98 43 (by omega)]; exact h43
      refine wp_e (x := Zi (cntL B.2 p j)) (m := w) ?_ ⟨rfl, hF, h1, h2⟩
      simp (disch := omega) only [fX13_layBest_13, qbI_s, qbL_s, qbV_s, qbR_s, qbR_n, qbN_s, qbN_n, qbIX_s, qbIX_n, qbVX_s, qbVX_n, cond_true, cond_false, cond_dec, jadd, jsub, jmul, jneg, li_0, li_1, li_2, li_3, li_4, li_5, li_6, li_7, li_8, li_9, li_10, li_14, li_15, li_16, li_19, li_20, li_24, li_30, li_31, li_32, li_39, li_40, li_48, li_57, li_59, li_60, li_63, li_65, li_80, li_81, li_90, li_97, li_99, li_100, li_122, li_126, li_127, li_150, li_160, li_200, li_225, li_255, li_400, li_799, li_800, li_999, li_2400, li_3239, li_3240, li_1048575, li_1431655765, li_858993459, li_252645135, eqb_j, ltb_j, leb_j, inb_j, ix_j, ix_n, nz_b, nz_0, nz_1, eqb_b, bnot, vI_ne, vI_eq, gIL, gLI, gIR, gRI, gLR, gRL, Int.reduceLT, Int.reduceLE, Int.reduceEq, Int.reduceAdd, Int.reduceSub, Int.reduceMul, Int.reduceNeg, Int.reduceToNat, Nat.reduceEqDiff, reduceIte, if_neg, if_pos, gI_ne, gIv 98, q43]
    | succ r ih =>
      intro j g w hj hg hF h1 h2
      obtain ⟨g, rfl⟩ : ∃ g', g = g' + 1 := ⟨g - 1, by omega⟩
      have q43 : vI w 98 43 = N := by rw [hF.v 98 43 (by omega), t4.v 98 43 (by omega)]; exact h43
      have q129 : vI w 129 j = p j := by rw [hF.v 129 j (by omega), t4.v 129 j (by omega)]; exact h129 j (by omega)
      have q130 : vI w 130 j = B.2 125 (p j) := by rw [hF.v 130 j (by omega)]; exact t130 j (by omega)
      have hpl := (hP.2.2.1 j (by omega)).1
      have sr := (fB.1.2.2.2.2.2.2 (p j) (by rw [fB.2.1 98 32 (by omega)]; exact hpl)).2.2.2
      have cn : cntL B.2 p (j + 1) = cntL B.2 p j + (if decide (B.2 125 (p j) ≠ -1) then 1 else 0) := fb_ct_succ _ _
      have cle : cntL B.2 p j ≤ j := fb_ct_le _ _
      have nx := ih (j + 1) g (sI w 125 (p j) (Zi (B.2 125 (p j)))) (by omega) (by omega) (hF.wI 125 _ _ rfl) (fun k hk => by
        rw [vI_of (show gI (sI w 125 (p j) (Zi (B.2 125 (p j)))) 125 k = gI w 125 k by rw [gI_eq, if_neg (hk j (by omega))])]
        exact h1 k hk) (fun j' hj' => by
        by_cases e : j' = j
        · rw [e]
          simp (disch := omega) only [qbI_s, qbL_s, qbV_s, qbR_s, qbR_n, qbN_s, qbN_n, qbIX_s, qbIX_n, qbVX_s, qbVX_n, cond_true, cond_false, cond_dec, jadd, jsub, jmul, jneg, li_0, li_1, li_2, li_3, li_4, li_5, li_6, li_7, li_8, li_9, li_10, li_14, li_15, li_16, li_19, li_20, li_24, li_30, li_31, li_32, li_39, li_40, li_48, li_57, li_59, li_60, li_63, li_65, li_80, li_81, li_90, li_97, li_99, li_100, li_122, li_126, li_127, li_150, li_160, li_200, li_225, li_255, li_400, li_799, li_800, li_999, li_2400, li_3239, li_3240, li_1048575, li_1431655765, li_858993459, li_252645135, eqb_j, ltb_j, leb_j, inb_j, ix_j, ix_n, nz_b, nz_0, nz_1, eqb_b, bnot, vI_ne, vI_eq, gIL, gLI, gIR, gRI, gLR, gRL, Int.reduceLT, Int.reduceLE, Int.reduceEq, Int.reduceAdd, Int.reduceSub, Int.reduceMul, Int.reduceNeg, Int.reduceToNat, Nat.reduceEqDiff, reduceIte, if_neg, if_pos, gI_ne]
        · rw [vI_of (show gI (sI w 125 (p j) (Zi (B.2 125 (p j)))) 125 (p j') = gI w 125 (p j') by rw [gI_eq, if_neg (fun z => e (hP.2.2.2 j' j (by omega) (by omega) z))])]
          exact h2 j' (by omega))
      rw [cn] at nx
      by_cases hz : B.2 125 (p j) = -1
      · rw [decide_eq_false (fun z => z hz)] at nx
        simp (disch := omega) only [fX13_layBest_13, fX13_layBest_38, qbI_s, qbL_s, qbV_s, qbR_s, qbR_n, qbN_s, qbN_n, qbIX_s, qbIX_n, qbVX_s, qbVX_n, cond_true, cond_false, cond_dec, jadd, jsub, jmul, jneg, li_0, li_1, li_2, li_3, li_4, li_5, li_6, li_7, li_8, li_9, li_10, li_14, li_15, li_16, li_19, li_20, li_24, li_30, li_31, li_32, li_39, li_40, li_48, li_57, li_59, li_60, li_63, li_65, li_80, li_81, li_90, li_97, li_99, li_100, li_122, li_126, li_127, li_150, li_160, li_200, li_225, li_255, li_400, li_799, li_800, li_999, li_2400, li_3239, li_3240, li_1048575, li_1431655765, li_858993459, li_252645135, eqb_j, ltb_j, leb_j, inb_j, ix_j, ix_n, nz_b, nz_0, nz_1, eqb_b, bnot, vI_ne, vI_eq, gIL, gLI, gIR, gRI, gLR, gRL, Int.reduceLT, Int.reduceLE, Int.reduceEq, Int.reduceAdd, Int.reduceSub, Int.reduceMul, Int.reduceNeg, Int.reduceToNat, Nat.reduceEqDiff, reduceIte, if_neg, if_pos, gI_ne, gIv 98, q43, gIv 129, q129, gIv 130, q130, show (-1 : Int32) = Zi (-1) from rfl]
        rw [Int.add_zero]
        exact nx
      · rw [decide_eq_true hz] at nx
        simp (disch := omega) only [fX13_layBest_13, fX13_layBest_38, qbI_s, qbL_s, qbV_s, qbR_s, qbR_n, qbN_s, qbN_n, qbIX_s, qbIX_n, qbVX_s, qbVX_n, cond_true, cond_false, cond_dec, jadd, jsub, jmul, jneg, li_0, li_1, li_2, li_3, li_4, li_5, li_6, li_7, li_8, li_9, li_10, li_14, li_15, li_16, li_19, li_20, li_24, li_30, li_31, li_32, li_39, li_40, li_48, li_57, li_59, li_60, li_63, li_65, li_80, li_81, li_90, li_97, li_99, li_100, li_122, li_126, li_127, li_150, li_160, li_200, li_225, li_255, li_400, li_799, li_800, li_999, li_2400, li_3239, li_3240, li_1048575, li_1431655765, li_858993459, li_252645135, eqb_j, ltb_j, leb_j, inb_j, ix_j, ix_n, nz_b, nz_0, nz_1, eqb_b, bnot, vI_ne, vI_eq, gIL, gLI, gIR, gRI, gLR, gRL, Int.reduceLT, Int.reduceLE, Int.reduceEq, Int.reduceAdd, Int.reduceSub, Int.reduceMul, Int.reduceNeg, Int.reduceToNat, Nat.reduceEqDiff, reduceIte, if_neg, if_pos, gI_ne, gIv 98, q43, gIv 129, q129, gIv 130, q130, show (-1 : Int32) = Zi (-1) from rfl]
        exact nx
  obtain ⟨y, m2, g2, k1, k2, k3, k4⟩ := key N 0 FU m1 (by omega) (by rw [FU_d]; omega) (Fr.rf m1) (fun k _ => t1 125 k (by unfold dP; omega)) (fun j' h => by omega)
  refine wp_e (x := y) (m := m2) ?_ ⟨k1, fun c k hc => ?_, t4.tr (k2.wide (fun c k hc => by omega))⟩
  · have g1' : fX13_layFew FG (Zi 0) (Zi fr) (Zi 0) (Zi 0) (sI m 98 46 (Zi 0)) = some (x1, m1) := g1
    have g2' : fX13_layBest_13 FU (Zi 0) (Zi 0) m1 = some (y, m2) := g2
    rw [fX13_layBest_d]
    simp (disch := omega) only [fX13_layBest_0, qbI_s, qbL_s, qbV_s, qbR_s, qbR_n, qbN_s, qbN_n, qbIX_s, qbIX_n, qbVX_s, qbVX_n, cond_true, cond_false, cond_dec, jadd, jsub, jmul, jneg, li_0, li_1, li_2, li_3, li_4, li_5, li_6, li_7, li_8, li_9, li_10, li_14, li_15, li_16, li_19, li_20, li_24, li_30, li_31, li_32, li_39, li_40, li_48, li_57, li_59, li_60, li_63, li_65, li_80, li_81, li_90, li_97, li_99, li_100, li_122, li_126, li_127, li_150, li_160, li_200, li_225, li_255, li_400, li_799, li_800, li_999, li_2400, li_3239, li_3240, li_1048575, li_1431655765, li_858993459, li_252645135, eqb_j, ltb_j, leb_j, inb_j, ix_j, ix_n, nz_b, nz_0, nz_1, eqb_b, bnot, vI_ne, vI_eq, gIL, gLI, gIR, gRI, gLR, gRL, Int.reduceLT, Int.reduceLE, Int.reduceEq, Int.reduceAdd, Int.reduceSub, Int.reduceMul, Int.reduceNeg, Int.reduceToNat, Nat.reduceEqDiff, reduceIte, if_neg, if_pos, gI_ne, qb0, g1', g2']
  · by_cases e : c = 125
    · rw [e]
      by_cases ek : ∃ j, j < N ∧ k = p j
      · obtain ⟨j, j1, j2⟩ := ek
        rw [j2]
        exact k4 j j1
      · rw [k3 k (fun j' h z => ek ⟨j', h, z⟩), fB.2.2 k (fun j' h z => ek ⟨j', h, z⟩)]
    · rw [k2.v c k e, t1 c k hc]
      exact (fB.2.1 c k e).symm
/-- the j-th that is marked -/
noncomputable def kth (ms : Nat → Bool) (n j : Nat) : Nat := if h : ∃ i, i < n ∧ ms i = true ∧ fb_ct ms i = j then Classical.choose h else 0
theorem kth_s {ms : Nat → Bool} {n j : Nat} (h : j < fb_ct ms n) : kth ms n j < n ∧ ms (kth ms n j) = true ∧ fb_ct ms (kth ms n j) = j := by
  have e : ∃ i, i < n ∧ ms i = true ∧ fb_ct ms i = j := by
    obtain ⟨i, h1, h2, h3⟩ := fb_ct_kth h
    exact ⟨i, h1, h2, h3⟩
  unfold kth
  rw [dif_pos e]
  exact Classical.choose_spec e
theorem kth_at {ms : Nat → Bool} {n i : Nat} (hi : i < n) (h : ms i = true) : kth ms n (fb_ct ms i) = i := by
  have h1 : fb_ct ms i < fb_ct ms n := by
    have := fb_ct_mono ms (show i + 1 ≤ n by omega)
    rw [fb_ct_succ, h, if_pos rfl] at this
    omega
  have h2 := kth_s h1
  exact fb_ct_kth_one h2.2.1 h h2.2.2
theorem Pk.of {d0 : Dt} (hD : DOk d0) (ms : Nat → Bool) (n : Nat) (hn : (n : Int) ≤ d0 98 32) (h4 : fb_ct ms n ≤ 4) (hu : ∀ i, i < n → ms i = true → d0 125 i = -1) : Pk d0 (kth ms n) (fb_ct ms n) :=
  ⟨h4, hD, fun j hj => by
    have h := kth_s hj
    exact ⟨by omega, hu _ h.1 h.2.1⟩, fun i j hi hj e => by
    have h1 := kth_s hi
    have h2 := kth_s hj
    rw [← h1.2.2, ← h2.2.2, e]⟩
theorem pick_s (m : qM) (c a : Nat) (h7 : vI m 68 7 = c) (hc : c < 4) : fX0_pick (Zi a) m = some ((), sI (sI m 69 c (Zi a)) 68 7 (Zi ((c : Int) + 1))) := by
  rw [fX0_pick_d]
  simp (disch := omega) only [fX0_pick_0, fX0_pick_16, qbI_s, qbL_s, qbV_s, qbR_s, qbR_n, qbN_s, qbN_n, qbIX_s, qbIX_n, qbVX_s, qbVX_n, cond_true, cond_false, cond_dec, jadd, jsub, jmul, jneg, li_0, li_1, li_2, li_3, li_4, li_5, li_6, li_7, li_8, li_9, li_10, li_14, li_15, li_16, li_19, li_20, li_24, li_30, li_31, li_32, li_39, li_40, li_48, li_57, li_59, li_60, li_63, li_65, li_80, li_81, li_90, li_97, li_99, li_100, li_122, li_126, li_127, li_150, li_160, li_200, li_225, li_255, li_400, li_799, li_800, li_999, li_2400, li_3239, li_3240, li_1048575, li_1431655765, li_858993459, li_252645135, eqb_j, ltb_j, leb_j, inb_j, ix_j, ix_n, nz_b, nz_0, nz_1, eqb_b, bnot, vI_ne, vI_eq, gIL, gLI, gIR, gRI, gLR, gRL, Int.reduceLT, Int.reduceLE, Int.reduceEq, Int.reduceAdd, Int.reduceSub, Int.reduceMul, Int.reduceNeg, Int.reduceToNat, Nat.reduceEqDiff, reduceIte, if_neg, if_pos, gI_ne, gIv 68, h7]
theorem bit_s (x : Int32) (i : Nat) (hi : i < 32) : eqb ((x >>> (Zi i &&& Zi 31)) &&& Zi 1) (Zi 0) = !bt x i := by
  have e : ((x >>> (Zi i &&& Zi 31)) &&& Zi 1) = ((x >>> (nI i &&& 31)) &&& 1) := by rw [Zn]; rfl
  rw [e, show Zi 0 = (0 : Int32) from rfl, eqb_d]
  by_cases h : bt x i = true
  · rw [h]
    refine decide_eq_false fun z => ?_
    have := congrArg (fun y => bt y 0) z
    simp only [b_and] at this
    rw [b_sshr i hi x (by decide)] at this
    simp [hi, h] at this
    exact absurd this (by decide)
  · simp only [Bool.not_eq_true] at h
    rw [h]
    refine decide_eq_true (b_ext fun j hj => ?_)
    rw [b_and, b_0]
    have : ∀ k, k < 32 → bt 1 k = decide (k = 0) := by decide +kernel
    rw [this j hj]
    by_cases e : j = 0
    · subst e
      rw [b_sshr i hi x (by decide)]
      simp [hi, h]
    · simp [e]
theorem shr_z (z n : Nat) (hz : z < 2147483648) (hn : n ≤ 30) : eqb (Zi z >>> (Zi n &&& Zi 31)) (Zi 0) = decide (z < 2 ^ n) := by
  have e : (Zi z >>> (Zi n &&& Zi 31)) = (nI z >>> (nI n &&& 31)) := by rw [Zn, Zn]; rfl
  rw [e, show Zi 0 = (0 : Int32) from rfl, eqb_d]
  have h31 : bt (nI z) 31 = false := by
    rw [bt_n, Nat.testBit_lt_two_pow (show z < 2 ^ 31 by omega), Bool.and_false]
  by_cases h : z < 2 ^ n
  · rw [decide_eq_true h]
    refine decide_eq_true (b_ext fun j hj => ?_)
    rw [b_sshr n (by omega) _ hj, b_0]
    split
    · rw [bt_n, Nat.testBit_lt_two_pow (Nat.lt_of_lt_of_le h (Nat.pow_le_pow_right (by decide) (by omega))), Bool.and_false]
    · exact h31
  · rw [decide_eq_false h]
    refine decide_eq_false fun g => h ?_
    refine Nat.lt_pow_two_of_testBit _ fun i hi => ?_
    by_cases hi2 : i < 32
    · have := congrArg (fun y => bt y (i - n)) g
      simp only [b_0] at this
      rw [b_sshr n (by omega) _ (by omega), if_pos (by omega), bt_n, show n + (i - n) = i by omega, decide_eq_true hi2, Bool.true_and] at this
      exact this
    · exact Nat.testBit_lt_two_pow (Nat.lt_of_lt_of_le hz (Nat.le_trans (show 2147483648 ≤ 2 ^ 31 by decide) (Nat.pow_le_pow_right (by decide) (by omega))))
theorem shlL : ∀ n : Nat, n < 31 → (Zl 1 <<< (Zl (n : Int) &&& (63 : Int64))) = Zl ((2 ^ n : Nat) : Int) := by decide +kernel
