/-! whether an ask may be laid in a slot -/
def runDn (p : Nat → Bool) : Nat → Nat
  | 0 => 0
  | k + 1 => if p k then runDn p k + 1 else 0
def runUp (p : Nat → Bool) : Nat → Nat → Nat
  | _, 0 => 0
  | s, r + 1 => if p s then runUp p (s + 1) r + 1 else 0
theorem runDn_le (p : Nat → Bool) : ∀ k, runDn p k ≤ k
  | 0 => Nat.le_refl _
  | k + 1 => by
    have := runDn_le p k
    unfold runDn
    split <;> omega
theorem runUp_le (p : Nat → Bool) : ∀ r s, runUp p s r ≤ r
  | 0, s => Nat.le_refl _
  | r + 1, s => by
    have := runUp_le p r (s + 1)
    unfold runUp
    split <;> omega
theorem runDn_cong {p q : Nat → Bool} : ∀ k, (∀ i, i < k → p i = q i) → runDn p k = runDn q k
  | 0, h => rfl
  | k + 1, h => by
    unfold runDn
    rw [h k (by omega), runDn_cong k (fun i hi => h i (by omega))]
theorem runUp_cong {p q : Nat → Bool} : ∀ r s, (∀ i, s ≤ i → i < s + r → p i = q i) → runUp p s r = runUp q s r
  | 0, s, h => rfl
  | r + 1, s, h => by
    unfold runUp
    rw [h s (by omega) (by omega), runUp_cong r (s + 1) (fun i h1 h2 => h i (by omega) (by omega))]
/-- as many slots between as the walk takes -/
noncomputable def wslV (d : Nat → Nat → Int) (t u : Nat) : Int := (wkV d t u + d 99 0 - 1) / d 99 0
/-- another ask that lets it be -/
def okV (d : Nat → Nat → Int) (a s o : Nat) : Prop := d 125 o ≠ -1 → ¬ (d 125 o = s ∧ (d 123 o = d 123 a ∨ d 124 o = d 124 a ∨ (0 < d 118 (d 123 a).toNat ∧ d 118 (d 123 o).toNat = d 118 (d 123 a).toNat))) ∧ ¬ (d 123 o = d 123 a ∧ ((d 125 o - s).natAbs : Int) ≤ wslV d (d 124 a).toNat (d 124 o).toNat) ∧ ¬ (d 122 (15 * (d 123 a).toNat + (d 123 o).toNat) = 1 ∧ ((d 125 o - s).natAbs : Int) ≤ d 99 5)
noncomputable def ltB (d : Nat → Nat → Int) (t k : Nat) : Bool := pd (laidT d t k)
noncomputable def restB (d : Nat → Nat → Int) (t s : Nat) : Bool := decide (d 99 4 = 0 ∨ ((1 + runDn (ltB d t) s + runUp (ltB d t) (s + 1) (19 - s) : Nat) : Int) ≤ d 99 4)
noncomputable def mbV (d : Nat → Nat → Int) (a s : Nat) : Bool := decide ((d 114 (d 124 a).toNat ≤ s ∧ s ≤ d 115 (d 124 a).toNat) ∧ d 116 (d 123 a).toNat ≤ s ∧ s ≤ d 117 (d 123 a).toNat) && (pd (∀ o : Nat, (o : Int) < d 98 32 → okV d a s o) && restB d (d 124 a).toNat s)
/-- what the reference's own cells are like -/
def MOk (m : qM) : Prop := ((1 ≤ vI m 99 0 ∧ vI m 99 0 ≤ 30) ∧ (0 ≤ vI m 99 1 ∧ vI m 99 1 ≤ 20) ∧ (0 ≤ vI m 99 2 ∧ vI m 99 2 ≤ 20) ∧ (0 ≤ vI m 99 3 ∧ vI m 99 3 ≤ 99) ∧ (0 ≤ vI m 99 4 ∧ vI m 99 4 ≤ 9) ∧ (0 ≤ vI m 99 5 ∧ vI m 99 5 ≤ 9)) ∧ (∀ t, t < 10 → (0 ≤ vI m 112 t ∧ vI m 112 t ≤ 9) ∧ (0 ≤ vI m 113 t ∧ vI m 113 t ≤ 9) ∧ (0 ≤ vI m 114 t ∧ vI m 114 t ≤ vI m 115 t ∧ vI m 115 t ≤ 19)) ∧ (∀ f, f < 15 → (0 ≤ vI m 116 f ∧ vI m 116 f ≤ vI m 117 f ∧ vI m 117 f ≤ 19) ∧ (0 ≤ vI m 118 f ∧ vI m 118 f ≤ 3) ∧ (0 ≤ vI m 119 f ∧ vI m 119 f ≤ vI m 120 f ∧ vI m 120 f ≤ 19) ∧ (0 ≤ vI m 121 f ∧ vI m 121 f ≤ 9)) ∧ (∀ k, k < 225 → vI m 122 k = 0 ∨ vI m 122 k = 1) ∧ 0 ≤ vI m 98 32 ∧ vI m 98 32 ≤ 40 ∧ ∀ a : Nat, (a : Int) < vI m 98 32 → (0 ≤ vI m 123 a ∧ vI m 123 a ≤ 14) ∧ (0 ≤ vI m 124 a ∧ vI m 124 a ≤ 9) ∧ (vI m 126 a = 0 ∨ vI m 126 a = 1) ∧ (-1 ≤ vI m 125 a ∧ vI m 125 a ≤ 19)
theorem MOk.of {m : qM} (hR : R0 m) : MOk m := by
  obtain ⟨⟨hT, hRd, hRu, hFo, hHa⟩, ⟨hPt, hPf, hAp, hWk⟩, ⟨hAs, hPa, hCl, hDi, hBi, hCn⟩, ⟨hTe, hBe, hNo, hPo⟩⟩ := hR
  refine ⟨hRu.2, fun t ht => ?_, fun f hf => ?_, hAp.2.1, hAs.2.1, hAs.2.2.1, fun a ha => ?_⟩
  · have h := hPt t ht
    exact ⟨h.1.2, h.2.1.2, h.2.2.1⟩
  · have h := hPf f hf
    exact ⟨h.1, h.2.2.1.2, h.2.2.2.1, h.2.2.2.2.2.2⟩
  · have h := hAs.2.2.2 a ha
    exact ⟨h.1.2, h.2.1.2, h.2.2.1.2, h.2.2.2.2⟩
theorem MOk.mono {m m' : qM} (h : MOk m) (q : ∀ c k, c = 99 ∨ 112 ≤ c ∧ c ≤ 126 ∨ c = 98 ∧ k = 32 → gI m' c k = gI m c k) : MOk m' := by
  have v : ∀ c k, c = 99 ∨ 112 ≤ c ∧ c ≤ 126 ∨ c = 98 ∧ k = 32 → vI m' c k = vI m c k := fun c k hc => vI_of (q c k hc)
  simp only [MOk] at h ⊢
  simp (disch := omega) only [v]
  exact h
theorem walkOfM (m : qM) (hM : MOk m) (t u : Nat) (ht : t < 10) (hu : u < 10) : fX13_walkOf (Zi t) (Zi u) m = some (Zi (wkV (vI m) t u), m) := by
  have a1 := hM.2.1 t ht
  have b1 := hM.2.1 u hu
  rw [fX13_walkOf_d]
  simp (disch := omega) only [fX13_walkOf_0, fX13_walkOf_18, fX13_walkOf_21, fX13_walkOf_45, qbI_s, qbL_s, qbV_s, qbR_s, qbR_n, qbN_s, qbN_n, qbIX_s, qbIX_n, qbVX_s, qbVX_n, cond_true, cond_false, cond_dec, jadd, jsub, jmul, jneg, li_0, li_1, li_2, li_3, li_4, li_5, li_6, li_7, li_8, li_9, li_10, li_14, li_15, li_16, li_19, li_20, li_24, li_30, li_31, li_32, li_39, li_40, li_48, li_57, li_59, li_60, li_63, li_65, li_80, li_81, li_90, li_97, li_99, li_100, li_122, li_126, li_127, li_150, li_160, li_200, li_225, li_255, li_400, li_799, li_800, li_999, li_2400, li_3239, li_3240, li_1048575, li_1431655765, li_858993459, li_252645135, eqb_j, ltb_j, leb_j, inb_j, ix_j, ix_n, nz_b, nz_0, nz_1, eqb_b, bnot, vI_ne, vI_eq, gIL, gLI, gIR, gRI, gLR, gRL, Int.reduceLT, Int.reduceLE, Int.reduceEq, Int.reduceAdd, Int.reduceSub, Int.reduceMul, Int.reduceNeg, Int.reduceToNat, Nat.reduceEqDiff, reduceIte, if_neg, if_pos, gI_ne, gIv 112, gIv 113, gIv 99, abs_s]
  unfold wkV
  by_cases g1 : vI m 112 t = vI m 112 u
  · rw [if_pos g1]
    by_cases g2 : vI m 113 t = vI m 113 u
    · rw [if_pos g2, if_pos ⟨g1, g2⟩]
    · rw [if_neg g2, if_neg (fun z => g2 z.2)]
  · rw [if_neg g1, if_neg (fun z => g1 z.1)]
theorem wkM_r (m : qM) (hM : MOk m) (t u : Nat) (ht : t < 10) (hu : u < 10) : 0 ≤ wkV (vI m) t u ∧ wkV (vI m) t u ≤ 200 := by
  obtain ⟨⟨r2, r3, r4, -⟩, r5, -⟩ := hM
  have h1 := (r5 t ht).2.1
  have h2 := (r5 u hu).2.1
  have h3 : ((vI m 113 t - vI m 113 u).natAbs : Int) ≤ 9 := by omega
  have h4 : vI m 99 1 * ((vI m 113 t - vI m 113 u).natAbs : Int) ≤ 20 * 9 := Int.mul_le_mul r3.2 h3 (by omega) (by omega)
  have h5 : 0 ≤ vI m 99 1 * ((vI m 113 t - vI m 113 u).natAbs : Int) := Int.mul_nonneg r3.1 (by omega)
  unfold wkV
  split <;> omega
theorem ws_r (m : qM) (hM : MOk m) (t u : Nat) (ht : t < 10) (hu : u < 10) : 0 ≤ wslV (vI m) t u ∧ wslV (vI m) t u ≤ 230 := by
  have h := wkM_r m hM t u ht hu
  have h2 := hM.1.1
  unfold wslV
  exact ⟨Int.ediv_nonneg (by omega) (by omega), Int.le_trans (Int.ediv_le_self _ (by omega)) (by omega)⟩
theorem hasT_s (m : qM) (hM : MOk m) (t s : Nat) (ht : t < 10) (hs : s < 20) : fX13_hasTeacher (Zi t) (Zi s) m = some (Zi (bI (ltB (vI m) t s)), m) := by
  have n1 := hM.2.2.2.2.1
  have n2 := hM.2.2.2.2.2.1
  have key : ∀ (r i f : Nat), i + r = (vI m 98 32).toNat → r < f → fX13_hasTeacher_2 f (Zi t) (Zi s) (Zi i) m = some (Zi (bI (pd (∃ a : Nat, i ≤ a ∧ (a : Int) < vI m 98 32 ∧ vI m 124 a = t ∧ vI m 125 a = s))), m) := by
    intro r
    induction r with
    | zero =>
      intro i f hi hf
      obtain ⟨f, rfl⟩ : ∃ f', f = f' + 1 := ⟨f - 1, by omega⟩
      simp (disch := omega) only [fX13_hasTeacher_2, qbI_s, qbL_s, qbV_s, qbR_s, qbR_n, qbN_s, qbN_n, qbIX_s, qbIX_n, qbVX_s, qbVX_n, cond_true, cond_false, cond_dec, jadd, jsub, jmul, jneg, li_0, li_1, li_2, li_3, li_4, li_5, li_6, li_7, li_8, li_9, li_10, li_14, li_15, li_16, li_19, li_20, li_24, li_30, li_31, li_32, li_39, li_40, li_48, li_57, li_59, li_60, li_63, li_65, li_80, li_81, li_90, li_97, li_99, li_100, li_122, li_126, li_127, li_150, li_160, li_200, li_225, li_255, li_400, li_799, li_800, li_999, li_2400, li_3239, li_3240, li_1048575, li_1431655765, li_858993459, li_252645135, eqb_j, ltb_j, leb_j, inb_j, ix_j, ix_n, nz_b, nz_0, nz_1, eqb_b, bnot, vI_ne, vI_eq, gIL, gLI, gIR, gRI, gLR, gRL, Int.reduceLT, Int.reduceLE, Int.reduceEq, Int.reduceAdd, Int.reduceSub, Int.reduceMul, Int.reduceNeg, Int.reduceToNat, Nat.reduceEqDiff, reduceIte, if_neg, if_pos, gI_ne, gIv 98]
      rw [pd_f (fun ⟨a, h1, h2, h3⟩ => by omega)]
      rfl
    | succ r ih =>
      intro i f hi hf
      obtain ⟨f, rfl⟩ : ∃ f', f = f' + 1 := ⟨f - 1, by omega⟩
      have ih2 := ih (i + 1) f (by omega) (by omega)
      have k1 := vI_r m 124 i
      have k2 := vI_r m 125 i
      simp (disch := omega) only [fX13_hasTeacher_2, fX13_hasTeacher_20, qbI_s, qbL_s, qbV_s, qbR_s, qbR_n, qbN_s, qbN_n, qbIX_s, qbIX_n, qbVX_s, qbVX_n, cond_true, cond_false, cond_dec, jadd, jsub, jmul, jneg, li_0, li_1, li_2, li_3, li_4, li_5, li_6, li_7, li_8, li_9, li_10, li_14, li_15, li_16, li_19, li_20, li_24, li_30, li_31, li_32, li_39, li_40, li_48, li_57, li_59, li_60, li_63, li_65, li_80, li_81, li_90, li_97, li_99, li_100, li_122, li_126, li_127, li_150, li_160, li_200, li_225, li_255, li_400, li_799, li_800, li_999, li_2400, li_3239, li_3240, li_1048575, li_1431655765, li_858993459, li_252645135, eqb_j, ltb_j, leb_j, inb_j, ix_j, ix_n, nz_b, nz_0, nz_1, eqb_b, bnot, vI_ne, vI_eq, gIL, gLI, gIR, gRI, gLR, gRL, Int.reduceLT, Int.reduceLE, Int.reduceEq, Int.reduceAdd, Int.reduceSub, Int.reduceMul, Int.reduceNeg, Int.reduceToNat, Nat.reduceEqDiff, reduceIte, if_neg, if_pos, gI_ne, gIv 98, gIv 124, gIv 125]
      by_cases g : vI m 124 i = t ∧ vI m 125 i = s
      · rw [if_pos g.1, if_pos g.2, pd_t ⟨i, Nat.le_refl _, by omega, g.1, g.2⟩]
        rfl
      · have e : pd (∃ a : Nat, i ≤ a ∧ (a : Int) < vI m 98 32 ∧ vI m 124 a = t ∧ vI m 125 a = s) = pd (∃ a : Nat, i + 1 ≤ a ∧ (a : Int) < vI m 98 32 ∧ vI m 124 a = t ∧ vI m 125 a = s) := by
          rw [Bool.eq_iff_iff, pd_iff, pd_iff]
          constructor
          · rintro ⟨a, h1, h2, h3, h4⟩
            by_cases e : a = i
            · subst e; exact absurd ⟨h3, h4⟩ g
            · exact ⟨a, by omega, h2, h3, h4⟩
          · rintro ⟨a, h1, h2, h3, h4⟩
            exact ⟨a, by omega, h2, h3, h4⟩
        rw [e]
        by_cases g1 : vI m 124 i = t
        · rw [if_pos g1, if_neg (fun z => g ⟨g1, z⟩)]
          exact ih2
        · rw [if_neg g1]
          exact ih2
  rw [fX13_hasTeacher_d]
  simp only [fX13_hasTeacher_0]
  have k0 := key (vI m 98 32).toNat 0 FU (by omega) (by rw [FU_d]; omega)
  have e0 : ltB (vI m) t s = pd (∃ a : Nat, 0 ≤ a ∧ (a : Int) < vI m 98 32 ∧ vI m 124 a = t ∧ vI m 125 a = s) := by
    unfold ltB laidT
    rw [Bool.eq_iff_iff, pd_iff, pd_iff]
    exact ⟨fun ⟨a, h1, h2, h3⟩ => ⟨a, Nat.zero_le _, h1, h2, h3⟩, fun ⟨a, h0, h1, h2, h3⟩ => ⟨a, h1, h2, h3⟩⟩
  rw [e0]
  exact k0
theorem mayDn (m : qM) (hM : MOk m) (t : Nat) (ht : t < 10) (k166 : Int32 → Int32 → Int32 → qM → Option (Int32 × qM)) (x2 : Int32) : ∀ (n f : Nat) (row : Nat), n < f → n ≤ 20 → fX13_mayBe_156 k166 f x2 (Zi t) (Zi row) (Zi ((n : Int) - 1)) m = k166 x2 (Zi t) (Zi ((row + runDn (ltB (vI m) t) n : Nat) : Int)) m := by
  intro n
  induction n with
  | zero =>
    intro f row hf hn
    obtain ⟨f, rfl⟩ : ∃ f', f = f' + 1 := ⟨f - 1, by omega⟩
    simp (disch := omega) only [fX13_mayBe_156, qbI_s, qbL_s, qbV_s, qbR_s, qbR_n, qbN_s, qbN_n, qbIX_s, qbIX_n, qbVX_s, qbVX_n, cond_true, cond_false, cond_dec, jadd, jsub, jmul, jneg, li_0, li_1, li_2, li_3, li_4, li_5, li_6, li_7, li_8, li_9, li_10, li_14, li_15, li_16, li_19, li_20, li_24, li_30, li_31, li_32, li_39, li_40, li_48, li_57, li_59, li_60, li_63, li_65, li_80, li_81, li_90, li_97, li_99, li_100, li_122, li_126, li_127, li_150, li_160, li_200, li_225, li_255, li_400, li_799, li_800, li_999, li_2400, li_3239, li_3240, li_1048575, li_1431655765, li_858993459, li_252645135, eqb_j, ltb_j, leb_j, inb_j, ix_j, ix_n, nz_b, nz_0, nz_1, eqb_b, bnot, vI_ne, vI_eq, gIL, gLI, gIR, gRI, gLR, gRL, Int.reduceLT, Int.reduceLE, Int.reduceEq, Int.reduceAdd, Int.reduceSub, Int.reduceMul, Int.reduceNeg, Int.reduceToNat, Nat.reduceEqDiff, reduceIte, if_neg, if_pos, gI_ne]
    rfl
  | succ n ih =>
    intro f row hf hn
    obtain ⟨f, rfl⟩ : ∃ f', f = f' + 1 := ⟨f - 1, by omega⟩
    have ih2 := ih f (row + 1) (by omega) (by omega)
    rw [show ((n + 1 : Nat) : Int) - 1 = (n : Int) by omega]
    simp (disch := omega) only [fX13_mayBe_156, hasT_s m hM, qbI_s, qbL_s, qbV_s, qbR_s, qbR_n, qbN_s, qbN_n, qbIX_s, qbIX_n, qbVX_s, qbVX_n, cond_true, cond_false, cond_dec, jadd, jsub, jmul, jneg, li_0, li_1, li_2, li_3, li_4, li_5, li_6, li_7, li_8, li_9, li_10, li_14, li_15, li_16, li_19, li_20, li_24, li_30, li_31, li_32, li_39, li_40, li_48, li_57, li_59, li_60, li_63, li_65, li_80, li_81, li_90, li_97, li_99, li_100, li_122, li_126, li_127, li_150, li_160, li_200, li_225, li_255, li_400, li_799, li_800, li_999, li_2400, li_3239, li_3240, li_1048575, li_1431655765, li_858993459, li_252645135, eqb_j, ltb_j, leb_j, inb_j, ix_j, ix_n, nz_b, nz_0, nz_1, eqb_b, bnot, vI_ne, vI_eq, gIL, gLI, gIR, gRI, gLR, gRL, Int.reduceLT, Int.reduceLE, Int.reduceEq, Int.reduceAdd, Int.reduceSub, Int.reduceMul, Int.reduceNeg, Int.reduceToNat, Nat.reduceEqDiff, reduceIte, if_neg, if_pos, gI_ne]
    unfold runDn
    cases h : ltB (vI m) t n
    · rfl
    · simp only [cond_true, if_true]
      rw [show row + (runDn (ltB (vI m) t) n + 1) = row + 1 + runDn (ltB (vI m) t) n by omega]
      exact ih2
theorem mayUp (m : qM) (hM : MOk m) (t : Nat) (ht : t < 10) (k181 : Int32 → qM → Option (Int32 × qM)) : ∀ (r s f : Nat) (row : Nat), s + r = 20 → r < f → fX13_mayBe_170 k181 f (Zi t) (Zi row) (Zi s) m = k181 (Zi ((row + runUp (ltB (vI m) t) s r : Nat) : Int)) m := by
  intro r
  induction r with
  | zero =>
    intro s f row hs hf
    obtain ⟨f, rfl⟩ : ∃ f', f = f' + 1 := ⟨f - 1, by omega⟩
    simp (disch := omega) only [fX13_mayBe_170, qbI_s, qbL_s, qbV_s, qbR_s, qbR_n, qbN_s, qbN_n, qbIX_s, qbIX_n, qbVX_s, qbVX_n, cond_true, cond_false, cond_dec, jadd, jsub, jmul, jneg, li_0, li_1, li_2, li_3, li_4, li_5, li_6, li_7, li_8, li_9, li_10, li_14, li_15, li_16, li_19, li_20, li_24, li_30, li_31, li_32, li_39, li_40, li_48, li_57, li_59, li_60, li_63, li_65, li_80, li_81, li_90, li_97, li_99, li_100, li_122, li_126, li_127, li_150, li_160, li_200, li_225, li_255, li_400, li_799, li_800, li_999, li_2400, li_3239, li_3240, li_1048575, li_1431655765, li_858993459, li_252645135, eqb_j, ltb_j, leb_j, inb_j, ix_j, ix_n, nz_b, nz_0, nz_1, eqb_b, bnot, vI_ne, vI_eq, gIL, gLI, gIR, gRI, gLR, gRL, Int.reduceLT, Int.reduceLE, Int.reduceEq, Int.reduceAdd, Int.reduceSub, Int.reduceMul, Int.reduceNeg, Int.reduceToNat, Nat.reduceEqDiff, reduceIte, if_neg, if_pos, gI_ne]
    rfl
  | succ r ih =>
    intro s f row hs hf
    obtain ⟨f, rfl⟩ : ∃ f', f = f' + 1 := ⟨f - 1, by omega⟩
    have ih2 := ih (s + 1) f (row + 1) (by omega) (by omega)
    simp (disch := omega) only [fX13_mayBe_170, hasT_s m hM, qbI_s, qbL_s, qbV_s, qbR_s, qbR_n, qbN_s, qbN_n, qbIX_s, qbIX_n, qbVX_s, qbVX_n, cond_true, cond_false, cond_dec, jadd, jsub, jmul, jneg, li_0, li_1, li_2, li_3, li_4, li_5, li_6, li_7, li_8, li_9, li_10, li_14, li_15, li_16, li_19, li_20, li_24, li_30, li_31, li_32, li_39, li_40, li_48, li_57, li_59, li_60, li_63, li_65, li_80, li_81, li_90, li_97, li_99, li_100, li_122, li_126, li_127, li_150, li_160, li_200, li_225, li_255, li_400, li_799, li_800, li_999, li_2400, li_3239, li_3240, li_1048575, li_1431655765, li_858993459, li_252645135, eqb_j, ltb_j, leb_j, inb_j, ix_j, ix_n, nz_b, nz_0, nz_1, eqb_b, bnot, vI_ne, vI_eq, gIL, gLI, gIR, gRI, gLR, gRL, Int.reduceLT, Int.reduceLE, Int.reduceEq, Int.reduceAdd, Int.reduceSub, Int.reduceMul, Int.reduceNeg, Int.reduceToNat, Nat.reduceEqDiff, reduceIte, if_neg, if_pos, gI_ne]
    unfold runUp
    cases h : ltB (vI m) t s
    · rfl
    · simp only [cond_true, if_true]
      rw [show row + (runUp (ltB (vI m) t) (s + 1) r + 1) = row + 1 + runUp (ltB (vI m) t) (s + 1) r by omega]
      exact ih2
theorem mayRest (m : qM) (hM : MOk m) (t s : Nat) (ht : t < 10) (hs : s < 20) (hr : vI m 99 4 ≠ 0) : fX13_mayBe_156 fX13_mayBe_166 FU (Zi s) (Zi t) (Zi 1) (Zi ((s : Int) - 1)) m = some (Zi (bI (restB (vI m) t s)), m) := by
  have d1 := mayDn m hM t ht fX13_mayBe_166 (Zi s) s FU 1 (by rw [FU_d]; omega) (by omega)
  have d2 := mayUp m hM t ht fX13_mayBe_181 (19 - s) (s + 1) FU (1 + runDn (ltB (vI m) t) s) (by omega) (by rw [FU_d]; omega)
  have l1 := runDn_le (ltB (vI m) t) s
  have l2 := runUp_le (ltB (vI m) t) (19 - s) (s + 1)
  have hr2 := hM.1.2.2.2.2.1
  refine d1.trans ?_
  simp only [fX13_mayBe_166, qbI_s, qbL_s, qbV_s, qbR_s, qbR_n, qbN_s, qbN_n, qbIX_s, qbIX_n, qbVX_s, qbVX_n, cond_true, cond_false, cond_dec, jadd, jsub, jmul, jneg, li_0, li_1, li_2, li_3, li_4, li_5, li_6, li_7, li_8, li_9, li_10, li_14, li_15, li_16, li_19, li_20, li_24, li_30, li_31, li_32, li_39, li_40, li_48, li_57, li_59, li_60, li_63, li_65, li_80, li_81, li_90, li_97, li_99, li_100, li_122, li_126, li_127, li_150, li_160, li_200, li_225, li_255, li_400, li_799, li_800, li_999, li_2400, li_3239, li_3240, li_1048575, li_1431655765, li_858993459, li_252645135, eqb_j, ltb_j, leb_j, inb_j, ix_j, ix_n, nz_b, nz_0, nz_1, eqb_b, bnot, vI_ne, vI_eq, gIL, gLI, gIR, gRI, gLR, gRL, Int.reduceLT, Int.reduceLE, Int.reduceEq, Int.reduceAdd, Int.reduceSub, Int.reduceMul, Int.reduceNeg, Int.reduceToNat, Nat.reduceEqDiff, reduceIte, if_neg, if_pos, gI_ne]
  refine d2.trans ?_
  simp (disch := omega) only [fX13_mayBe_181, fX13_mayBe_190, qbI_s, qbL_s, qbV_s, qbR_s, qbR_n, qbN_s, qbN_n, qbIX_s, qbIX_n, qbVX_s, qbVX_n, cond_true, cond_false, cond_dec, jadd, jsub, jmul, jneg, li_0, li_1, li_2, li_3, li_4, li_5, li_6, li_7, li_8, li_9, li_10, li_14, li_15, li_16, li_19, li_20, li_24, li_30, li_31, li_32, li_39, li_40, li_48, li_57, li_59, li_60, li_63, li_65, li_80, li_81, li_90, li_97, li_99, li_100, li_122, li_126, li_127, li_150, li_160, li_200, li_225, li_255, li_400, li_799, li_800, li_999, li_2400, li_3239, li_3240, li_1048575, li_1431655765, li_858993459, li_252645135, eqb_j, ltb_j, leb_j, inb_j, ix_j, ix_n, nz_b, nz_0, nz_1, eqb_b, bnot, vI_ne, vI_eq, gIL, gLI, gIR, gRI, gLR, gRL, Int.reduceLT, Int.reduceLE, Int.reduceEq, Int.reduceAdd, Int.reduceSub, Int.reduceMul, Int.reduceNeg, Int.reduceToNat, Nat.reduceEqDiff, reduceIte, if_neg, if_pos, gI_ne, gIv 99, restB, bI_dec]
  by_cases g : vI m 99 4 < ((1 + runDn (ltB (vI m) t) s + runUp (ltB (vI m) t) (s + 1) (19 - s) : Nat) : Int)
  · rw [if_pos g, if_neg (by omega)]
  · rw [if_neg g, if_pos (by omega)]
theorem mayBe_s (m : qM) (hM : MOk m) (a s : Nat) (ha : (a : Int) < vI m 98 32) (hs : s < 20) (hu : vI m 125 a = -1) : fX13_mayBe (Zi a) (Zi s) m = some (Zi (bI (mbV (vI m) a s)), m) := by
  obtain ⟨f1, t1, -, -⟩ := hM.2.2.2.2.2.2 a ha
  obtain ⟨f, hf⟩ : ∃ f : Nat, vI m 123 a = f := ⟨(vI m 123 a).toNat, by omega⟩
  obtain ⟨t, ht⟩ : ∃ t : Nat, vI m 124 a = t := ⟨(vI m 124 a).toNat, by omega⟩
  have n1 := hM.2.2.2.2.1
  have n2 := hM.2.2.2.2.2.1
  have r0 := hM.1.1
  have r4 := hM.1.2.2.2.2.1
  have r5 := hM.1.2.2.2.2.2
  have k118 := vI_r m 118 f
  have key : ∀ (r i g : Nat), i + r = (vI m 98 32).toNat → r < g → fX13_mayBe_42 (fX13_mayBe_156 fX13_mayBe_166 FU) fX13_mayBe_94 g (Zi a) (Zi s) (Zi f) (Zi t) (Zi i) m = some (Zi (bI (pd (∀ o : Nat, i ≤ o → (o : Int) < vI m 98 32 → okV (vI m) a s o) && restB (vI m) t s)), m) := by
    intro r
    induction r with
    | zero =>
      intro i g hi hg
      obtain ⟨g, rfl⟩ : ∃ g', g = g' + 1 := ⟨g - 1, by omega⟩
      rw [pd_t (fun o h1 h2 => by omega), Bool.true_and]
      by_cases hr : vI m 99 4 = 0
      · simp (disch := omega) only [fX13_mayBe_42, qbI_s, qbL_s, qbV_s, qbR_s, qbR_n, qbN_s, qbN_n, qbIX_s, qbIX_n, qbVX_s, qbVX_n, cond_true, cond_false, cond_dec, jadd, jsub, jmul, jneg, li_0, li_1, li_2, li_3, li_4, li_5, li_6, li_7, li_8, li_9, li_10, li_14, li_15, li_16, li_19, li_20, li_24, li_30, li_31, li_32, li_39, li_40, li_48, li_57, li_59, li_60, li_63, li_65, li_80, li_81, li_90, li_97, li_99, li_100, li_122, li_126, li_127, li_150, li_160, li_200, li_225, li_255, li_400, li_799, li_800, li_999, li_2400, li_3239, li_3240, li_1048575, li_1431655765, li_858993459, li_252645135, eqb_j, ltb_j, leb_j, inb_j, ix_j, ix_n, nz_b, nz_0, nz_1, eqb_b, bnot, vI_ne, vI_eq, gIL, gLI, gIR, gRI, gLR, gRL, Int.reduceLT, Int.reduceLE, Int.reduceEq, Int.reduceAdd, Int.reduceSub, Int.reduceMul, Int.reduceNeg, Int.reduceToNat, Nat.reduceEqDiff, reduceIte, if_neg, if_pos, gI_ne, gIv 98, gIv 99, hr]
        rw [show restB (vI m) t s = true from decide_eq_true (Or.inl hr)]
        rfl
      · simp (disch := omega) only [fX13_mayBe_42, qbI_s, qbL_s, qbV_s, qbR_s, qbR_n, qbN_s, qbN_n, qbIX_s, qbIX_n, qbVX_s, qbVX_n, cond_true, cond_false, cond_dec, jadd, jsub, jmul, jneg, li_0, li_1, li_2, li_3, li_4, li_5, li_6, li_7, li_8, li_9, li_10, li_14, li_15, li_16, li_19, li_20, li_24, li_30, li_31, li_32, li_39, li_40, li_48, li_57, li_59, li_60, li_63, li_65, li_80, li_81, li_90, li_97, li_99, li_100, li_122, li_126, li_127, li_150, li_160, li_200, li_225, li_255, li_400, li_799, li_800, li_999, li_2400, li_3239, li_3240, li_1048575, li_1431655765, li_858993459, li_252645135, eqb_j, ltb_j, leb_j, inb_j, ix_j, ix_n, nz_b, nz_0, nz_1, eqb_b, bnot, vI_ne, vI_eq, gIL, gLI, gIR, gRI, gLR, gRL, Int.reduceLT, Int.reduceLE, Int.reduceEq, Int.reduceAdd, Int.reduceSub, Int.reduceMul, Int.reduceNeg, Int.reduceToNat, Nat.reduceEqDiff, reduceIte, if_neg, if_pos, gI_ne, gIv 98, gIv 99]
        exact mayRest m hM t s (by omega) hs hr
    | succ r ih =>
      intro i g hi hg
      obtain ⟨g, rfl⟩ : ∃ g', g = g' + 1 := ⟨g - 1, by omega⟩
      have ih2 := ih (i + 1) g (by omega) (by omega)
      have hi' : (i : Int) < vI m 98 32 := by omega
      obtain ⟨p1, p2, -, p4⟩ := hM.2.2.2.2.2.2 i hi'
      obtain ⟨f2, hf2⟩ : ∃ f2 : Nat, vI m 123 i = f2 := ⟨(vI m 123 i).toNat, by omega⟩
      obtain ⟨t2, ht2⟩ : ∃ t2 : Nat, vI m 124 i = t2 := ⟨(vI m 124 i).toNat, by omega⟩
      have good : okV (vI m) a s i → pd (∀ o : Nat, i ≤ o → (o : Int) < vI m 98 32 → okV (vI m) a s o) = pd (∀ o : Nat, i + 1 ≤ o → (o : Int) < vI m 98 32 → okV (vI m) a s o) := fun hk => by
        rw [Bool.eq_iff_iff, pd_iff, pd_iff]
        exact ⟨fun h o h1 h2 => h o (by omega) h2, fun h o h1 h2 => by
          by_cases e : o = i
          · rw [e]; exact hk
          · exact h o (by omega) h2⟩
      have bad : ¬ okV (vI m) a s i → pd (∀ o : Nat, i ≤ o → (o : Int) < vI m 98 32 → okV (vI m) a s o) = false := fun hk => pd_f fun h => hk (h i (Nat.le_refl _) hi')
      by_cases e : i = a
      · rw [good (fun z => absurd (by rw [e]; exact hu) z)]
        simp (disch := omega) only [fX13_mayBe_42, fX13_mayBe_141, qbI_s, qbL_s, qbV_s, qbR_s, qbR_n, qbN_s, qbN_n, qbIX_s, qbIX_n, qbVX_s, qbVX_n, cond_true, cond_false, cond_dec, jadd, jsub, jmul, jneg, li_0, li_1, li_2, li_3, li_4, li_5, li_6, li_7, li_8, li_9, li_10, li_14, li_15, li_16, li_19, li_20, li_24, li_30, li_31, li_32, li_39, li_40, li_48, li_57, li_59, li_60, li_63, li_65, li_80, li_81, li_90, li_97, li_99, li_100, li_122, li_126, li_127, li_150, li_160, li_200, li_225, li_255, li_400, li_799, li_800, li_999, li_2400, li_3239, li_3240, li_1048575, li_1431655765, li_858993459, li_252645135, eqb_j, ltb_j, leb_j, inb_j, ix_j, ix_n, nz_b, nz_0, nz_1, eqb_b, bnot, vI_ne, vI_eq, gIL, gLI, gIR, gRI, gLR, gRL, Int.reduceLT, Int.reduceLE, Int.reduceEq, Int.reduceAdd, Int.reduceSub, Int.reduceMul, Int.reduceNeg, Int.reduceToNat, Nat.reduceEqDiff, reduceIte, if_neg, if_pos, gI_ne, gIv 98]
        exact ih2
      · by_cases hl : vI m 125 i = -1
        · rw [good (fun z => absurd hl z)]
          simp (disch := omega) only [fX13_mayBe_42, fX13_mayBe_141, qbI_s, qbL_s, qbV_s, qbR_s, qbR_n, qbN_s, qbN_n, qbIX_s, qbIX_n, qbVX_s, qbVX_n, cond_true, cond_false, cond_dec, jadd, jsub, jmul, jneg, li_0, li_1, li_2, li_3, li_4, li_5, li_6, li_7, li_8, li_9, li_10, li_14, li_15, li_16, li_19, li_20, li_24, li_30, li_31, li_32, li_39, li_40, li_48, li_57, li_59, li_60, li_63, li_65, li_80, li_81, li_90, li_97, li_99, li_100, li_122, li_126, li_127, li_150, li_160, li_200, li_225, li_255, li_400, li_799, li_800, li_999, li_2400, li_3239, li_3240, li_1048575, li_1431655765, li_858993459, li_252645135, eqb_j, ltb_j, leb_j, inb_j, ix_j, ix_n, nz_b, nz_0, nz_1, eqb_b, bnot, vI_ne, vI_eq, gIL, gLI, gIR, gRI, gLR, gRL, Int.reduceLT, Int.reduceLE, Int.reduceEq, Int.reduceAdd, Int.reduceSub, Int.reduceMul, Int.reduceNeg, Int.reduceToNat, Nat.reduceEqDiff, reduceIte, if_neg, if_pos, gI_ne, gIv 98, gIv 125]
          exact ih2
        · have k2 := vI_r m 118 f2
          have hw := walkOfM m hM t t2 (by omega) (by omega)
          have hwr := wkM_r m hM t t2 (by omega) (by omega)
          have hwsr := ws_r m hM t t2 (by omega) (by omega)
          have i1 : (15 * (f : Int) + f2).toNat = 15 * f + f2 := by omega
          have ha122 := hM.2.2.2.1 (15 * f + f2) (by omega)
          have hws : (wkV (vI m) t t2 + vI m 99 0 - 1) / vI m 99 0 = wslV (vI m) t t2 := rfl
          have okE : okV (vI m) a s i ↔ ¬ (vI m 125 i = s ∧ (f2 = f ∨ t2 = t ∨ (0 < vI m 118 f ∧ vI m 118 f2 = vI m 118 f))) ∧ ¬ (f2 = f ∧ ((vI m 125 i - s).natAbs : Int) ≤ wslV (vI m) t t2) ∧ ¬ (vI m 122 (15 * f + f2) = 1 ∧ ((vI m 125 i - s).natAbs : Int) ≤ vI m 99 5) := by
            unfold okV
            simp only [hf, ht, hf2, ht2, Int.toNat_natCast, Int.natCast_inj]
            exact ⟨fun h => h hl, fun h _ => h⟩
          have tail : ¬ (f2 = f ∧ ((vI m 125 i - s).natAbs : Int) ≤ wslV (vI m) t t2) → ¬ (vI m 125 i = s ∧ (f2 = f ∨ t2 = t ∨ (0 < vI m 118 f ∧ vI m 118 f2 = vI m 118 f))) → fX13_mayBe_124 (fX13_mayBe_42 (fX13_mayBe_156 fX13_mayBe_166 FU) fX13_mayBe_94 g) (Zi a) (Zi s) (Zi f) (Zi t) (Zi i) (Zi ((vI m 125 i - s).natAbs : Int)) (Zi f2) m = some (Zi (bI (pd (∀ o : Nat, i ≤ o → (o : Int) < vI m 98 32 → okV (vI m) a s o) && restB (vI m) t s)), m) := by
            intro q1 q2
            by_cases h3 : vI m 122 (15 * f + f2) = 1
            · by_cases h4 : ((vI m 125 i - s).natAbs : Int) ≤ vI m 99 5
              · rw [bad (fun z => (okE.mp z).2.2 ⟨h3, h4⟩)]
                simp (disch := omega) only [fX13_mayBe_124, fX13_mayBe_141, qbI_s, qbL_s, qbV_s, qbR_s, qbR_n, qbN_s, qbN_n, qbIX_s, qbIX_n, qbVX_s, qbVX_n, cond_true, cond_false, cond_dec, jadd, jsub, jmul, jneg, li_0, li_1, li_2, li_3, li_4, li_5, li_6, li_7, li_8, li_9, li_10, li_14, li_15, li_16, li_19, li_20, li_24, li_30, li_31, li_32, li_39, li_40, li_48, li_57, li_59, li_60, li_63, li_65, li_80, li_81, li_90, li_97, li_99, li_100, li_122, li_126, li_127, li_150, li_160, li_200, li_225, li_255, li_400, li_799, li_800, li_999, li_2400, li_3239, li_3240, li_1048575, li_1431655765, li_858993459, li_252645135, eqb_j, ltb_j, leb_j, inb_j, ix_j, ix_n, nz_b, nz_0, nz_1, eqb_b, bnot, vI_ne, vI_eq, gIL, gLI, gIR, gRI, gLR, gRL, Int.reduceLT, Int.reduceLE, Int.reduceEq, Int.reduceAdd, Int.reduceSub, Int.reduceMul, Int.reduceNeg, Int.reduceToNat, Nat.reduceEqDiff, reduceIte, if_neg, if_pos, gI_ne, gIv 122, gIv 99, i1, h3]
                rfl
              · rw [good (okE.mpr ⟨q2, q1, fun z => h4 z.2⟩)]
                simp (disch := omega) only [fX13_mayBe_124, fX13_mayBe_141, qbI_s, qbL_s, qbV_s, qbR_s, qbR_n, qbN_s, qbN_n, qbIX_s, qbIX_n, qbVX_s, qbVX_n, cond_true, cond_false, cond_dec, jadd, jsub, jmul, jneg, li_0, li_1, li_2, li_3, li_4, li_5, li_6, li_7, li_8, li_9, li_10, li_14, li_15, li_16, li_19, li_20, li_24, li_30, li_31, li_32, li_39, li_40, li_48, li_57, li_59, li_60, li_63, li_65, li_80, li_81, li_90, li_97, li_99, li_100, li_122, li_126, li_127, li_150, li_160, li_200, li_225, li_255, li_400, li_799, li_800, li_999, li_2400, li_3239, li_3240, li_1048575, li_1431655765, li_858993459, li_252645135, eqb_j, ltb_j, leb_j, inb_j, ix_j, ix_n, nz_b, nz_0, nz_1, eqb_b, bnot, vI_ne, vI_eq, gIL, gLI, gIR, gRI, gLR, gRL, Int.reduceLT, Int.reduceLE, Int.reduceEq, Int.reduceAdd, Int.reduceSub, Int.reduceMul, Int.reduceNeg, Int.reduceToNat, Nat.reduceEqDiff, reduceIte, if_neg, if_pos, gI_ne, gIv 122, gIv 99, i1, h3]
                exact ih2
            · rw [good (okE.mpr ⟨q2, q1, fun z => h3 z.1⟩)]
              simp (disch := omega) only [fX13_mayBe_124, fX13_mayBe_141, qbI_s, qbL_s, qbV_s, qbR_s, qbR_n, qbN_s, qbN_n, qbIX_s, qbIX_n, qbVX_s, qbVX_n, cond_true, cond_false, cond_dec, jadd, jsub, jmul, jneg, li_0, li_1, li_2, li_3, li_4, li_5, li_6, li_7, li_8, li_9, li_10, li_14, li_15, li_16, li_19, li_20, li_24, li_30, li_31, li_32, li_39, li_40, li_48, li_57, li_59, li_60, li_63, li_65, li_80, li_81, li_90, li_97, li_99, li_100, li_122, li_126, li_127, li_150, li_160, li_200, li_225, li_255, li_400, li_799, li_800, li_999, li_2400, li_3239, li_3240, li_1048575, li_1431655765, li_858993459, li_252645135, eqb_j, ltb_j, leb_j, inb_j, ix_j, ix_n, nz_b, nz_0, nz_1, eqb_b, bnot, vI_ne, vI_eq, gIL, gLI, gIR, gRI, gLR, gRL, Int.reduceLT, Int.reduceLE, Int.reduceEq, Int.reduceAdd, Int.reduceSub, Int.reduceMul, Int.reduceNeg, Int.reduceToNat, Nat.reduceEqDiff, reduceIte, if_neg, if_pos, gI_ne, gIv 122, i1]
              exact ih2
          have mid : ¬ (vI m 125 i = s ∧ (f2 = f ∨ t2 = t ∨ (0 < vI m 118 f ∧ vI m 118 f2 = vI m 118 f))) → fX13_mayBe_96 (fX13_mayBe_42 (fX13_mayBe_156 fX13_mayBe_166 FU) fX13_mayBe_94 g) (Zi a) (Zi s) (Zi f) (Zi t) (Zi i) (Zi ((vI m 125 i - s).natAbs : Int)) (Zi f2) m = some (Zi (bI (pd (∀ o : Nat, i ≤ o → (o : Int) < vI m 98 32 → okV (vI m) a s o) && restB (vI m) t s)), m) := by
            intro q2
            by_cases h1 : f2 = f
            · by_cases h2 : ((vI m 125 i - s).natAbs : Int) ≤ wslV (vI m) t t2
              · rw [bad (fun z => (okE.mp z).2.1 ⟨h1, h2⟩)]
                simp (disch := omega) only [fX13_mayBe_96, qbI_s, qbL_s, qbV_s, qbR_s, qbR_n, qbN_s, qbN_n, qbIX_s, qbIX_n, qbVX_s, qbVX_n, cond_true, cond_false, cond_dec, jadd, jsub, jmul, jneg, li_0, li_1, li_2, li_3, li_4, li_5, li_6, li_7, li_8, li_9, li_10, li_14, li_15, li_16, li_19, li_20, li_24, li_30, li_31, li_32, li_39, li_40, li_48, li_57, li_59, li_60, li_63, li_65, li_80, li_81, li_90, li_97, li_99, li_100, li_122, li_126, li_127, li_150, li_160, li_200, li_225, li_255, li_400, li_799, li_800, li_999, li_2400, li_3239, li_3240, li_1048575, li_1431655765, li_858993459, li_252645135, eqb_j, ltb_j, leb_j, inb_j, ix_j, ix_n, nz_b, nz_0, nz_1, eqb_b, bnot, vI_ne, vI_eq, gIL, gLI, gIR, gRI, gLR, gRL, Int.reduceLT, Int.reduceLE, Int.reduceEq, Int.reduceAdd, Int.reduceSub, Int.reduceMul, Int.reduceNeg, Int.reduceToNat, Nat.reduceEqDiff, reduceIte, if_neg, if_pos, gI_ne, gIv 124, gIv 99, ht2, hw, jdiv, hws]
                rfl
              · have tl := tail (fun z => h2 z.2) q2
                simp (disch := omega) only [fX13_mayBe_96, qbI_s, qbL_s, qbV_s, qbR_s, qbR_n, qbN_s, qbN_n, qbIX_s, qbIX_n, qbVX_s, qbVX_n, cond_true, cond_false, cond_dec, jadd, jsub, jmul, jneg, li_0, li_1, li_2, li_3, li_4, li_5, li_6, li_7, li_8, li_9, li_10, li_14, li_15, li_16, li_19, li_20, li_24, li_30, li_31, li_32, li_39, li_40, li_48, li_57, li_59, li_60, li_63, li_65, li_80, li_81, li_90, li_97, li_99, li_100, li_122, li_126, li_127, li_150, li_160, li_200, li_225, li_255, li_400, li_799, li_800, li_999, li_2400, li_3239, li_3240, li_1048575, li_1431655765, li_858993459, li_252645135, eqb_j, ltb_j, leb_j, inb_j, ix_j, ix_n, nz_b, nz_0, nz_1, eqb_b, bnot, vI_ne, vI_eq, gIL, gLI, gIR, gRI, gLR, gRL, Int.reduceLT, Int.reduceLE, Int.reduceEq, Int.reduceAdd, Int.reduceSub, Int.reduceMul, Int.reduceNeg, Int.reduceToNat, Nat.reduceEqDiff, reduceIte, if_neg, if_pos, gI_ne, gIv 124, gIv 99, ht2, hw, jdiv, hws]
                exact tl
            · have tl := tail (fun z => h1 z.1) q2
              simp (disch := omega) only [fX13_mayBe_96, qbI_s, qbL_s, qbV_s, qbR_s, qbR_n, qbN_s, qbN_n, qbIX_s, qbIX_n, qbVX_s, qbVX_n, cond_true, cond_false, cond_dec, jadd, jsub, jmul, jneg, li_0, li_1, li_2, li_3, li_4, li_5, li_6, li_7, li_8, li_9, li_10, li_14, li_15, li_16, li_19, li_20, li_24, li_30, li_31, li_32, li_39, li_40, li_48, li_57, li_59, li_60, li_63, li_65, li_80, li_81, li_90, li_97, li_99, li_100, li_122, li_126, li_127, li_150, li_160, li_200, li_225, li_255, li_400, li_799, li_800, li_999, li_2400, li_3239, li_3240, li_1048575, li_1431655765, li_858993459, li_252645135, eqb_j, ltb_j, leb_j, inb_j, ix_j, ix_n, nz_b, nz_0, nz_1, eqb_b, bnot, vI_ne, vI_eq, gIL, gLI, gIR, gRI, gLR, gRL, Int.reduceLT, Int.reduceLE, Int.reduceEq, Int.reduceAdd, Int.reduceSub, Int.reduceMul, Int.reduceNeg, Int.reduceToNat, Nat.reduceEqDiff, reduceIte, if_neg, if_pos, gI_ne]
              exact tl
          by_cases hz : vI m 125 i = s
          · have hz2 : ((vI m 125 i - s).natAbs : Int) = 0 := by omega
            by_cases c1 : f2 = f
            · rw [bad (fun z => (okE.mp z).1 ⟨hz, Or.inl c1⟩)]
              simp (disch := omega) only [fX13_mayBe_42, fX13_mayBe_94, qbI_s, qbL_s, qbV_s, qbR_s, qbR_n, qbN_s, qbN_n, qbIX_s, qbIX_n, qbVX_s, qbVX_n, cond_true, cond_false, cond_dec, jadd, jsub, jmul, jneg, li_0, li_1, li_2, li_3, li_4, li_5, li_6, li_7, li_8, li_9, li_10, li_14, li_15, li_16, li_19, li_20, li_24, li_30, li_31, li_32, li_39, li_40, li_48, li_57, li_59, li_60, li_63, li_65, li_80, li_81, li_90, li_97, li_99, li_100, li_122, li_126, li_127, li_150, li_160, li_200, li_225, li_255, li_400, li_799, li_800, li_999, li_2400, li_3239, li_3240, li_1048575, li_1431655765, li_858993459, li_252645135, eqb_j, ltb_j, leb_j, inb_j, ix_j, ix_n, nz_b, nz_0, nz_1, eqb_b, bnot, vI_ne, vI_eq, gIL, gLI, gIR, gRI, gLR, gRL, Int.reduceLT, Int.reduceLE, Int.reduceEq, Int.reduceAdd, Int.reduceSub, Int.reduceMul, Int.reduceNeg, Int.reduceToNat, Nat.reduceEqDiff, reduceIte, if_neg, if_pos, gI_ne, gIv 98, gIv 125, gIv 123, hf2, abs_s]
              rfl
            · by_cases c2 : t2 = t
              · rw [bad (fun z => (okE.mp z).1 ⟨hz, Or.inr (Or.inl c2)⟩)]
                simp (disch := omega) only [fX13_mayBe_42, fX13_mayBe_94, qbI_s, qbL_s, qbV_s, qbR_s, qbR_n, qbN_s, qbN_n, qbIX_s, qbIX_n, qbVX_s, qbVX_n, cond_true, cond_false, cond_dec, jadd, jsub, jmul, jneg, li_0, li_1, li_2, li_3, li_4, li_5, li_6, li_7, li_8, li_9, li_10, li_14, li_15, li_16, li_19, li_20, li_24, li_30, li_31, li_32, li_39, li_40, li_48, li_57, li_59, li_60, li_63, li_65, li_80, li_81, li_90, li_97, li_99, li_100, li_122, li_126, li_127, li_150, li_160, li_200, li_225, li_255, li_400, li_799, li_800, li_999, li_2400, li_3239, li_3240, li_1048575, li_1431655765, li_858993459, li_252645135, eqb_j, ltb_j, leb_j, inb_j, ix_j, ix_n, nz_b, nz_0, nz_1, eqb_b, bnot, vI_ne, vI_eq, gIL, gLI, gIR, gRI, gLR, gRL, Int.reduceLT, Int.reduceLE, Int.reduceEq, Int.reduceAdd, Int.reduceSub, Int.reduceMul, Int.reduceNeg, Int.reduceToNat, Nat.reduceEqDiff, reduceIte, if_neg, if_pos, gI_ne, gIv 98, gIv 125, gIv 123, gIv 124, hf2, ht2, abs_s]
                rfl
              · by_cases c3 : 0 < vI m 118 f
                · by_cases c4 : vI m 118 f2 = vI m 118 f
                  · rw [bad (fun z => (okE.mp z).1 ⟨hz, Or.inr (Or.inr ⟨c3, c4⟩)⟩)]
                    simp (disch := omega) only [fX13_mayBe_42, fX13_mayBe_94, qbI_s, qbL_s, qbV_s, qbR_s, qbR_n, qbN_s, qbN_n, qbIX_s, qbIX_n, qbVX_s, qbVX_n, cond_true, cond_false, cond_dec, jadd, jsub, jmul, jneg, li_0, li_1, li_2, li_3, li_4, li_5, li_6, li_7, li_8, li_9, li_10, li_14, li_15, li_16, li_19, li_20, li_24, li_30, li_31, li_32, li_39, li_40, li_48, li_57, li_59, li_60, li_63, li_65, li_80, li_81, li_90, li_97, li_99, li_100, li_122, li_126, li_127, li_150, li_160, li_200, li_225, li_255, li_400, li_799, li_800, li_999, li_2400, li_3239, li_3240, li_1048575, li_1431655765, li_858993459, li_252645135, eqb_j, ltb_j, leb_j, inb_j, ix_j, ix_n, nz_b, nz_0, nz_1, eqb_b, bnot, vI_ne, vI_eq, gIL, gLI, gIR, gRI, gLR, gRL, Int.reduceLT, Int.reduceLE, Int.reduceEq, Int.reduceAdd, Int.reduceSub, Int.reduceMul, Int.reduceNeg, Int.reduceToNat, Nat.reduceEqDiff, reduceIte, if_neg, if_pos, gI_ne, gIv 98, gIv 125, gIv 123, gIv 124, gIv 118, hf2, ht2, abs_s]
                    rfl
                  · have md := mid (fun z => by rcases z.2 with z | z | z; exact c1 z; exact c2 z; exact c4 z.2)
                    simp (disch := omega) only [fX13_mayBe_42, fX13_mayBe_94, qbI_s, qbL_s, qbV_s, qbR_s, qbR_n, qbN_s, qbN_n, qbIX_s, qbIX_n, qbVX_s, qbVX_n, cond_true, cond_false, cond_dec, jadd, jsub, jmul, jneg, li_0, li_1, li_2, li_3, li_4, li_5, li_6, li_7, li_8, li_9, li_10, li_14, li_15, li_16, li_19, li_20, li_24, li_30, li_31, li_32, li_39, li_40, li_48, li_57, li_59, li_60, li_63, li_65, li_80, li_81, li_90, li_97, li_99, li_100, li_122, li_126, li_127, li_150, li_160, li_200, li_225, li_255, li_400, li_799, li_800, li_999, li_2400, li_3239, li_3240, li_1048575, li_1431655765, li_858993459, li_252645135, eqb_j, ltb_j, leb_j, inb_j, ix_j, ix_n, nz_b, nz_0, nz_1, eqb_b, bnot, vI_ne, vI_eq, gIL, gLI, gIR, gRI, gLR, gRL, Int.reduceLT, Int.reduceLE, Int.reduceEq, Int.reduceAdd, Int.reduceSub, Int.reduceMul, Int.reduceNeg, Int.reduceToNat, Nat.reduceEqDiff, reduceIte, if_neg, if_pos, gI_ne, gIv 98, gIv 125, gIv 123, gIv 124, gIv 118, hf2, ht2, abs_s]
                    exact md
                · have md := mid (fun z => by rcases z.2 with z | z | z; exact c1 z; exact c2 z; exact c3 z.1)
                  simp (disch := omega) only [fX13_mayBe_42, fX13_mayBe_94, qbI_s, qbL_s, qbV_s, qbR_s, qbR_n, qbN_s, qbN_n, qbIX_s, qbIX_n, qbVX_s, qbVX_n, cond_true, cond_false, cond_dec, jadd, jsub, jmul, jneg, li_0, li_1, li_2, li_3, li_4, li_5, li_6, li_7, li_8, li_9, li_10, li_14, li_15, li_16, li_19, li_20, li_24, li_30, li_31, li_32, li_39, li_40, li_48, li_57, li_59, li_60, li_63, li_65, li_80, li_81, li_90, li_97, li_99, li_100, li_122, li_126, li_127, li_150, li_160, li_200, li_225, li_255, li_400, li_799, li_800, li_999, li_2400, li_3239, li_3240, li_1048575, li_1431655765, li_858993459, li_252645135, eqb_j, ltb_j, leb_j, inb_j, ix_j, ix_n, nz_b, nz_0, nz_1, eqb_b, bnot, vI_ne, vI_eq, gIL, gLI, gIR, gRI, gLR, gRL, Int.reduceLT, Int.reduceLE, Int.reduceEq, Int.reduceAdd, Int.reduceSub, Int.reduceMul, Int.reduceNeg, Int.reduceToNat, Nat.reduceEqDiff, reduceIte, if_neg, if_pos, gI_ne, gIv 98, gIv 125, gIv 123, gIv 124, gIv 118, hf2, ht2, abs_s]
                  exact md
          · have md := mid (fun z => hz z.1)
            simp (disch := omega) only [fX13_mayBe_42, fX13_mayBe_94, qbI_s, qbL_s, qbV_s, qbR_s, qbR_n, qbN_s, qbN_n, qbIX_s, qbIX_n, qbVX_s, qbVX_n, cond_true, cond_false, cond_dec, jadd, jsub, jmul, jneg, li_0, li_1, li_2, li_3, li_4, li_5, li_6, li_7, li_8, li_9, li_10, li_14, li_15, li_16, li_19, li_20, li_24, li_30, li_31, li_32, li_39, li_40, li_48, li_57, li_59, li_60, li_63, li_65, li_80, li_81, li_90, li_97, li_99, li_100, li_122, li_126, li_127, li_150, li_160, li_200, li_225, li_255, li_400, li_799, li_800, li_999, li_2400, li_3239, li_3240, li_1048575, li_1431655765, li_858993459, li_252645135, eqb_j, ltb_j, leb_j, inb_j, ix_j, ix_n, nz_b, nz_0, nz_1, eqb_b, bnot, vI_ne, vI_eq, gIL, gLI, gIR, gRI, gLR, gRL, Int.reduceLT, Int.reduceLE, Int.reduceEq, Int.reduceAdd, Int.reduceSub, Int.reduceMul, Int.reduceNeg, Int.reduceToNat, Nat.reduceEqDiff, reduceIte, if_neg, if_pos, gI_ne, gIv 98, gIv 125, gIv 123, hf2, abs_s]
            exact md
  have k0 := key (vI m 98 32).toNat 0 FU (by omega) (by rw [FU_d]; omega)
  have e0 : pd (∀ o : Nat, 0 ≤ o → (o : Int) < vI m 98 32 → okV (vI m) a s o) = pd (∀ o : Nat, (o : Int) < vI m 98 32 → okV (vI m) a s o) := by
    rw [Bool.eq_iff_iff, pd_iff, pd_iff]
    exact ⟨fun h o h1 => h o (Nat.zero_le _) h1, fun h o _ h1 => h o h1⟩
  rw [e0] at k0
  have q114 := vI_r m 114 t
  have q115 := vI_r m 115 t
  have q116 := vI_r m 116 f
  have q117 := vI_r m 117 f
  rw [fX13_mayBe_d]
  simp only [mbV, hf, ht, Int.toNat_natCast]
  by_cases g1 : vI m 114 t ≤ s ∧ (s : Int) ≤ vI m 115 t
  · by_cases g2 : vI m 116 f ≤ s ∧ (s : Int) ≤ vI m 117 f
    · rw [decide_eq_true (And.intro g1 g2), Bool.true_and]
      simp (disch := omega) only [fX13_mayBe_0, fX13_mayBe_38, qbI_s, qbL_s, qbV_s, qbR_s, qbR_n, qbN_s, qbN_n, qbIX_s, qbIX_n, qbVX_s, qbVX_n, cond_true, cond_false, cond_dec, jadd, jsub, jmul, jneg, li_0, li_1, li_2, li_3, li_4, li_5, li_6, li_7, li_8, li_9, li_10, li_14, li_15, li_16, li_19, li_20, li_24, li_30, li_31, li_32, li_39, li_40, li_48, li_57, li_59, li_60, li_63, li_65, li_80, li_81, li_90, li_97, li_99, li_100, li_122, li_126, li_127, li_150, li_160, li_200, li_225, li_255, li_400, li_799, li_800, li_999, li_2400, li_3239, li_3240, li_1048575, li_1431655765, li_858993459, li_252645135, eqb_j, ltb_j, leb_j, inb_j, ix_j, ix_n, nz_b, nz_0, nz_1, eqb_b, bnot, vI_ne, vI_eq, gIL, gLI, gIR, gRI, gLR, gRL, Int.reduceLT, Int.reduceLE, Int.reduceEq, Int.reduceAdd, Int.reduceSub, Int.reduceMul, Int.reduceNeg, Int.reduceToNat, Nat.reduceEqDiff, reduceIte, if_neg, if_pos, gI_ne, ll_0, ll_1, ll_3, ll_5, ll_9, ll_10, ll_13, ll_14, ll_19, ll_20, ll_32, ll_60, ll_126, ll_799, ll_1024, ll_1048576, ll_67108864, Zladd, Zlsub, Zlmul, Zlneg, toL, lg_lt, lg_gt, lg_le, gIv 123, gIv 124, gIv 114, gIv 115, gIv 116, gIv 117, hf, ht, in_s]
      exact k0
    · rw [decide_eq_false (fun z => g2 z.2)]
      simp (disch := omega) only [fX13_mayBe_0, fX13_mayBe_38, qbI_s, qbL_s, qbV_s, qbR_s, qbR_n, qbN_s, qbN_n, qbIX_s, qbIX_n, qbVX_s, qbVX_n, cond_true, cond_false, cond_dec, jadd, jsub, jmul, jneg, li_0, li_1, li_2, li_3, li_4, li_5, li_6, li_7, li_8, li_9, li_10, li_14, li_15, li_16, li_19, li_20, li_24, li_30, li_31, li_32, li_39, li_40, li_48, li_57, li_59, li_60, li_63, li_65, li_80, li_81, li_90, li_97, li_99, li_100, li_122, li_126, li_127, li_150, li_160, li_200, li_225, li_255, li_400, li_799, li_800, li_999, li_2400, li_3239, li_3240, li_1048575, li_1431655765, li_858993459, li_252645135, eqb_j, ltb_j, leb_j, inb_j, ix_j, ix_n, nz_b, nz_0, nz_1, eqb_b, bnot, vI_ne, vI_eq, gIL, gLI, gIR, gRI, gLR, gRL, Int.reduceLT, Int.reduceLE, Int.reduceEq, Int.reduceAdd, Int.reduceSub, Int.reduceMul, Int.reduceNeg, Int.reduceToNat, Nat.reduceEqDiff, reduceIte, if_neg, if_pos, gI_ne, ll_0, ll_1, ll_3, ll_5, ll_9, ll_10, ll_13, ll_14, ll_19, ll_20, ll_32, ll_60, ll_126, ll_799, ll_1024, ll_1048576, ll_67108864, Zladd, Zlsub, Zlmul, Zlneg, toL, lg_lt, lg_gt, lg_le, gIv 123, gIv 124, gIv 114, gIv 115, gIv 116, gIv 117, hf, ht, in_s]
      rfl
  · rw [decide_eq_false (fun z => g1 z.1)]
    simp (disch := omega) only [fX13_mayBe_0, fX13_mayBe_38, qbI_s, qbL_s, qbV_s, qbR_s, qbR_n, qbN_s, qbN_n, qbIX_s, qbIX_n, qbVX_s, qbVX_n, cond_true, cond_false, cond_dec, jadd, jsub, jmul, jneg, li_0, li_1, li_2, li_3, li_4, li_5, li_6, li_7, li_8, li_9, li_10, li_14, li_15, li_16, li_19, li_20, li_24, li_30, li_31, li_32, li_39, li_40, li_48, li_57, li_59, li_60, li_63, li_65, li_80, li_81, li_90, li_97, li_99, li_100, li_122, li_126, li_127, li_150, li_160, li_200, li_225, li_255, li_400, li_799, li_800, li_999, li_2400, li_3239, li_3240, li_1048575, li_1431655765, li_858993459, li_252645135, eqb_j, ltb_j, leb_j, inb_j, ix_j, ix_n, nz_b, nz_0, nz_1, eqb_b, bnot, vI_ne, vI_eq, gIL, gLI, gIR, gRI, gLR, gRL, Int.reduceLT, Int.reduceLE, Int.reduceEq, Int.reduceAdd, Int.reduceSub, Int.reduceMul, Int.reduceNeg, Int.reduceToNat, Nat.reduceEqDiff, reduceIte, if_neg, if_pos, gI_ne, ll_0, ll_1, ll_3, ll_5, ll_9, ll_10, ll_13, ll_14, ll_19, ll_20, ll_32, ll_60, ll_126, ll_799, ll_1024, ll_1048576, ll_67108864, Zladd, Zlsub, Zlmul, Zlneg, toL, lg_lt, lg_gt, lg_le, gIv 123, gIv 124, gIv 114, gIv 115, hf, ht, in_s]
    rfl
