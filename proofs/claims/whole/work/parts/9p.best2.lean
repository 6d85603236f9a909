/-! the class lays a few asks best: what each may add yet, and the way through the slots -/
theorem worth_s {m : qM} {d : Dt} (hC : CAll m d) : fX4_worth m = some (Zl (wD d), m) := by
  obtain ⟨c1, c2, c3, c4⟩ := cnt_C hC
  have hr := val_r d (DOk.of hC)
  rw [fX4_worth_d]
  simp (disch := omega) only [fX4_worth_0, qbI_s, qbL_s, qbV_s, qbR_s, qbR_n, qbN_s, qbN_n, qbIX_s, qbIX_n, qbVX_s, qbVX_n, cond_true, cond_false, cond_dec, jadd, jsub, jmul, jneg, li_0, li_1, li_2, li_3, li_4, li_5, li_6, li_7, li_8, li_9, li_10, li_14, li_15, li_16, li_19, li_20, li_24, li_30, li_31, li_32, li_39, li_40, li_48, li_57, li_59, li_60, li_63, li_65, li_80, li_81, li_90, li_97, li_99, li_100, li_122, li_126, li_127, li_150, li_160, li_200, li_225, li_255, li_400, li_799, li_800, li_999, li_2400, li_3239, li_3240, li_1048575, li_1431655765, li_858993459, li_252645135, eqb_j, ltb_j, leb_j, inb_j, ix_j, ix_n, nz_b, nz_0, nz_1, eqb_b, bnot, vI_ne, vI_eq, gIL, gLI, gIR, gRI, gLR, gRL, Int.reduceLT, Int.reduceLE, Int.reduceEq, Int.reduceAdd, Int.reduceSub, Int.reduceMul, Int.reduceNeg, Int.reduceToNat, Nat.reduceEqDiff, reduceIte, if_neg, if_pos, gI_ne, ll_0, ll_1, ll_3, ll_5, ll_9, ll_10, ll_13, ll_14, ll_19, ll_20, ll_32, ll_60, ll_126, ll_799, ll_1024, ll_1048576, ll_67108864, Zladd, Zlsub, Zlmul, Zlneg, toL, lg_lt, lg_gt, lg_le, gIv 58, c1, c2, c3, c4]
  rfl
theorem maxL_s (a b : Int) (h : -9223372036854775808 ≤ a ∧ a < 9223372036854775808 ∧ -9223372036854775808 ≤ b ∧ b < 9223372036854775808) (m : qM) : fJ9_max_f86c9 (Zl a) (Zl b) m = some (Zl (max a b), m) := by
  rw [fJ9_max_f86c9_d]
  simp (disch := omega) only [fJ9_max_f86c9_0, fJ9_max_f86c9_7, qbI_s, qbL_s, qbV_s, qbR_s, qbR_n, qbN_s, qbN_n, qbIX_s, qbIX_n, qbVX_s, qbVX_n, cond_true, cond_false, cond_dec, jadd, jsub, jmul, jneg, li_0, li_1, li_2, li_3, li_4, li_5, li_6, li_7, li_8, li_9, li_10, li_14, li_15, li_16, li_19, li_20, li_24, li_30, li_31, li_32, li_39, li_40, li_48, li_57, li_59, li_60, li_63, li_65, li_80, li_81, li_90, li_97, li_99, li_100, li_122, li_126, li_127, li_150, li_160, li_200, li_225, li_255, li_400, li_799, li_800, li_999, li_2400, li_3239, li_3240, li_1048575, li_1431655765, li_858993459, li_252645135, eqb_j, ltb_j, leb_j, inb_j, ix_j, ix_n, nz_b, nz_0, nz_1, eqb_b, bnot, vI_ne, vI_eq, gIL, gLI, gIR, gRI, gLR, gRL, Int.reduceLT, Int.reduceLE, Int.reduceEq, Int.reduceAdd, Int.reduceSub, Int.reduceMul, Int.reduceNeg, Int.reduceToNat, Nat.reduceEqDiff, reduceIte, if_neg, if_pos, gI_ne, ll_0, ll_1, ll_3, ll_5, ll_9, ll_10, ll_13, ll_14, ll_19, ll_20, ll_32, ll_60, ll_126, ll_799, ll_1024, ll_1048576, ll_67108864, Zladd, Zlsub, Zlmul, Zlneg, toL, lg_lt, lg_gt, lg_le]
  split
  · rw [Int.max_eq_right (by omega)]
  · rw [Int.max_eq_left (by omega)]
theorem gapsW (m : qM) {x : Int32} {p : Nat → Bool} (h : ∀ k, k < 32 → bt x k = p k) (h2 : ∀ k, 20 ≤ k → p k = false) : fX11_gapsIn x m = some (Zi (gapS p), m) := by
  have e : bt x = p := funext fun k => by
    by_cases g : k < 32
    · exact h k g
    · rw [b_big (by omega)]
      exact (h2 k (by omega)).symm
  have e2 : gapN x = gapS p := by
    unfold gapN gapS
    exact fb_ct_cong fun k _ => by unfold gapB gapP; rw [e]
  rw [gaps_s x (by rw [e]; exact h2 31 (by omega)), e2]
theorem lfB_20 {d : Dt} (hD : DOk d) (f k : Nat) (hk : 20 ≤ k) : lfB d f k = false := pd_f fun ⟨o, o1, o2, o3⟩ => by
  have := (hD.2.2.2.2.2.2 o o1).2.2.2
  omega
theorem gainU_s (m : qM) (d : Dt) (hC : CAll m d) (a s : Nat) (ha : (a : Int) < d 98 32) (hu : d 125 a = -1) (hs : s < 20) : fX4_gain (Zi a) (Zi s) m = some (Zl (gnU d a s), m) := by
  have hD := DOk.of hC
  have hlf := fun f hf => bt_lf hC f hf
  obtain ⟨hRu, hPt, hPf, hAp, hWk, hAs, hPa, hCl, hDi, hBi, hCn⟩ := hC
  obtain ⟨e1, e2, e3, e4⟩ := hAs
  obtain ⟨k1, k2, k3, k4⟩ := e4 a ha
  obtain ⟨f, hf⟩ : ∃ f : Nat, d 123 a = f := ⟨(d 123 a).toNat, by omega⟩
  have pF := hPf f (by omega)
  have h59 : vI m 59 a = f := by rw [k1.1, hf]
  have pt := pt_s m d a s f (by omega) (by omega) (by omega) hf h59 (pF.2.2.2.2.1 s (by omega)) pF.2.2.2.2.2.1
  have ptr := ptAt_r d hD a s ha
  have g1 := gapsW m (x := gI m 65 f) (p := lfB d f) (fun k _ => by rw [hlf f (by omega)]) (fun k hk => lfB_20 hD f k hk)
  have g2 := gapsW m (x := gI m 65 f ||| (Zi 1 <<< (Zi s &&& Zi 31))) (p := addS (lfB d f) s) (fun k hk => by
    rw [b_or, hlf f (by omega), show (Zi 1 <<< (Zi s &&& Zi 31)) = ((1 : Int32) <<< (nI s &&& 31)) from by rw [Zn]; rfl, b_one (by omega) hk]
    rfl) (fun k hk => by
    unfold addS
    rw [lfB_20 hD f k hk, decide_eq_false (by omega)]
    rfl)
  have q1 := gapS_le (lfB d f)
  have q2 := gapS_le (addS (lfB d f) s)
  rw [fX4_gain_d]
  by_cases hm : d 126 a = 1
  · simp (disch := omega) only [fX4_gain_0, fX4_gain_38, fX4_gain_62, qbI_s, qbL_s, qbV_s, qbR_s, qbR_n, qbN_s, qbN_n, qbIX_s, qbIX_n, qbVX_s, qbVX_n, cond_true, cond_false, cond_dec, jadd, jsub, jmul, jneg, li_0, li_1, li_2, li_3, li_4, li_5, li_6, li_7, li_8, li_9, li_10, li_14, li_15, li_16, li_19, li_20, li_24, li_30, li_31, li_32, li_39, li_40, li_48, li_57, li_59, li_60, li_63, li_65, li_80, li_81, li_90, li_97, li_99, li_100, li_122, li_126, li_127, li_150, li_160, li_200, li_225, li_255, li_400, li_799, li_800, li_999, li_2400, li_3239, li_3240, li_1048575, li_1431655765, li_858993459, li_252645135, eqb_j, ltb_j, leb_j, inb_j, ix_j, ix_n, nz_b, nz_0, nz_1, eqb_b, bnot, vI_ne, vI_eq, gIL, gLI, gIR, gRI, gLR, gRL, Int.reduceLT, Int.reduceLE, Int.reduceEq, Int.reduceAdd, Int.reduceSub, Int.reduceMul, Int.reduceNeg, Int.reduceToNat, Nat.reduceEqDiff, reduceIte, if_neg, if_pos, gI_ne, ll_0, ll_1, ll_3, ll_5, ll_9, ll_10, ll_13, ll_14, ll_19, ll_20, ll_32, ll_60, ll_126, ll_799, ll_1024, ll_1048576, ll_67108864, Zladd, Zlsub, Zlmul, Zlneg, toL, lg_lt, lg_gt, lg_le, gIv 59, gIv 61, gIv 62, h59, k3.1, k4.1, hu, hm, pt, g1, g2, show (-1 : Int32) = Zi (-1) from rfl]
    refine congrArg (fun z => some (Zl z, m)) ?_
    unfold gnU muI
    rw [hf, Int.toNat_natCast, if_pos hm]
    omega
  · simp (disch := omega) only [fX4_gain_0, fX4_gain_38, fX4_gain_62, qbI_s, qbL_s, qbV_s, qbR_s, qbR_n, qbN_s, qbN_n, qbIX_s, qbIX_n, qbVX_s, qbVX_n, cond_true, cond_false, cond_dec, jadd, jsub, jmul, jneg, li_0, li_1, li_2, li_3, li_4, li_5, li_6, li_7, li_8, li_9, li_10, li_14, li_15, li_16, li_19, li_20, li_24, li_30, li_31, li_32, li_39, li_40, li_48, li_57, li_59, li_60, li_63, li_65, li_80, li_81, li_90, li_97, li_99, li_100, li_122, li_126, li_127, li_150, li_160, li_200, li_225, li_255, li_400, li_799, li_800, li_999, li_2400, li_3239, li_3240, li_1048575, li_1431655765, li_858993459, li_252645135, eqb_j, ltb_j, leb_j, inb_j, ix_j, ix_n, nz_b, nz_0, nz_1, eqb_b, bnot, vI_ne, vI_eq, gIL, gLI, gIR, gRI, gLR, gRL, Int.reduceLT, Int.reduceLE, Int.reduceEq, Int.reduceAdd, Int.reduceSub, Int.reduceMul, Int.reduceNeg, Int.reduceToNat, Nat.reduceEqDiff, reduceIte, if_neg, if_pos, gI_ne, ll_0, ll_1, ll_3, ll_5, ll_9, ll_10, ll_13, ll_14, ll_19, ll_20, ll_32, ll_60, ll_126, ll_799, ll_1024, ll_1048576, ll_67108864, Zladd, Zlsub, Zlmul, Zlneg, toL, lg_lt, lg_gt, lg_le, gIv 59, gIv 61, gIv 62, h59, k3.1, k4.1, hu, pt, g1, g2, show (-1 : Int32) = Zi (-1) from rfl]
    refine congrArg (fun z => some (Zl z, m)) ?_
    unfold gnU muI
    rw [hf, Int.toNat_natCast, if_neg hm]
    omega
theorem gnU_r (d : Dt) (hD : DOk d) (a s : Nat) (ha : (a : Int) < d 98 32) (hs : s < 20) : -40000 ≤ gnU d a s ∧ gnU d a s ≤ muI d a * 67108864 + 1048576 + 1024 + 1 + d 121 (d 123 a).toNat ∧ gnU d a s ≤ 69000000 := by
  have h1 := ptAt_r d hD a s ha
  have h2 := muI_r d a
  have h3 := gapS_add (lfB d (d 123 a).toNat) s (by omega)
  have h4 := gapS_le (lfB d (d 123 a).toNat)
  have h5 := gapS_le (addS (lfB d (d 123 a).toNat) s)
  have h7 := (hD.2.2.2.2.2.2 a ha).1
  have h6 := (hD.2.2.1 (d 123 a).toNat (by omega)).2.2.2
  have h8 : ptAt d a s ≤ 1 + d 121 (d 123 a).toNat := by
    unfold ptAt
    split <;> omega
  unfold gnU
  omega
/-- what an ask that is yet to be laid can add at most -/
def HB (d0 : Dt) (p : Nat → Nat) (al : Nat → Bool) (i : Nat) (h : Int) : Prop := 0 ≤ h ∧ h ≤ 69000000 ∧ ∀ d, Reach d0 p al i d → ∀ s, s < 20 → mbV d (p i) s = true → al s = true → wD (upS d (p i) s) ≤ wD d + h
def SP (N : Nat) (p : Nat → Nat) (al : Nat → Bool) (m : qM) : Prop := vI m 68 7 = N ∧ (∀ j, j < N → vI m 69 j = p j) ∧ ∀ s, s < 20 → bt (gI m 68 8) s = al s
theorem hope_s {d0 : Dt} {p : Nat → Nat} {al : Nat → Bool} {N : Nat} (hP : Pk d0 p N) {m : qM} (hC : CAll m d0) (hS : SP N p al m) (i : Nat) (hi : i < N) : ∃ h, fX0_hopeOf (Zi i) m = some (Zl h, m) ∧ HB d0 p al i h := by
  obtain ⟨n4, hD, hpp, hinj⟩ := hP
  have hP : Pk d0 p N := ⟨n4, hD, hpp, hinj⟩
  obtain ⟨s1, s2, s3⟩ := hS
  have hAs := hC.2.2.2.2.2.1
  obtain ⟨e1, e2, e3, e4⟩ := hAs
  have famL : ∀ j, j < N → fX4_familyOf (Zi (p j)) m = some (Zi (d0 123 (p j)), m) := fun j hj => by
    have k1 := (e4 (p j) (hpp j hj).1).1
    have := (hpp j hj).1
    rw [fX4_familyOf_d]
    simp (disch := omega) only [fX4_familyOf_0, qbI_s, qbL_s, qbV_s, qbR_s, qbR_n, qbN_s, qbN_n, qbIX_s, qbIX_n, qbVX_s, qbVX_n, cond_true, cond_false, cond_dec, jadd, jsub, jmul, jneg, li_0, li_1, li_2, li_3, li_4, li_5, li_6, li_7, li_8, li_9, li_10, li_14, li_15, li_16, li_19, li_20, li_24, li_30, li_31, li_32, li_39, li_40, li_48, li_57, li_59, li_60, li_63, li_65, li_80, li_81, li_90, li_97, li_99, li_100, li_122, li_126, li_127, li_150, li_160, li_200, li_225, li_255, li_400, li_799, li_800, li_999, li_2400, li_3239, li_3240, li_1048575, li_1431655765, li_858993459, li_252645135, eqb_j, ltb_j, leb_j, inb_j, ix_j, ix_n, nz_b, nz_0, nz_1, eqb_b, bnot, vI_ne, vI_eq, gIL, gLI, gIR, gRI, gLR, gRL, Int.reduceLT, Int.reduceLE, Int.reduceEq, Int.reduceAdd, Int.reduceSub, Int.reduceMul, Int.reduceNeg, Int.reduceToNat, Nat.reduceEqDiff, reduceIte, if_neg, if_pos, gI_ne, gIv 59, k1.1]
  have hpi := hpp i hi
  have key2 : ∀ (a5 : Int32), (∀ s, s < 20 → bt a5 s = (mbV d0 (p i) s && al s)) → ∀ (r s g : Nat) (v : Int), s + r = 20 → r < g → 0 ≤ v ∧ v ≤ 69000000 → ∃ h, fX0_hopeOf_45 g (Zi (p i)) (Zl v) a5 (Zi s) m = some (Zl h, m) ∧ v ≤ h ∧ h ≤ 69000000 ∧ ∀ s', s ≤ s' → s' < 20 → mbV d0 (p i) s' = true → al s' = true → gnU d0 (p i) s' ≤ h := by
    intro a5 ha5 r
    induction r with
    | zero =>
      intro s g v hs hg hv
      obtain ⟨g, rfl⟩ : ∃ g', g = g' + 1 := ⟨g - 1, by omega⟩
      refine ⟨v, ?_, Int.le_refl _, hv.2, fun s' h1 h2 => by omega⟩
      simp (disch := omega) only [fX0_hopeOf_45, qbI_s, qbL_s, qbV_s, qbR_s, qbR_n, qbN_s, qbN_n, qbIX_s, qbIX_n, qbVX_s, qbVX_n, cond_true, cond_false, cond_dec, jadd, jsub, jmul, jneg, li_0, li_1, li_2, li_3, li_4, li_5, li_6, li_7, li_8, li_9, li_10, li_14, li_15, li_16, li_19, li_20, li_24, li_30, li_31, li_32, li_39, li_40, li_48, li_57, li_59, li_60, li_63, li_65, li_80, li_81, li_90, li_97, li_99, li_100, li_122, li_126, li_127, li_150, li_160, li_200, li_225, li_255, li_400, li_799, li_800, li_999, li_2400, li_3239, li_3240, li_1048575, li_1431655765, li_858993459, li_252645135, eqb_j, ltb_j, leb_j, inb_j, ix_j, ix_n, nz_b, nz_0, nz_1, eqb_b, bnot, vI_ne, vI_eq, gIL, gLI, gIR, gRI, gLR, gRL, Int.reduceLT, Int.reduceLE, Int.reduceEq, Int.reduceAdd, Int.reduceSub, Int.reduceMul, Int.reduceNeg, Int.reduceToNat, Nat.reduceEqDiff, reduceIte, if_neg, if_pos, gI_ne]
    | succ r ih =>
      intro s g v hs hg hv
      obtain ⟨g, rfl⟩ : ∃ g', g = g' + 1 := ⟨g - 1, by omega⟩
      have hh := has_s a5 s (by omega) m
      rw [ha5 s (by omega)] at hh
      cases hb : (mbV d0 (p i) s && al s)
      · rw [hb] at hh
        obtain ⟨h, i1, i2, i3, i4⟩ := ih (s + 1) g v (by omega) (by omega) hv
        refine ⟨h, ?_, i2, i3, fun s' h1 h2 h3 h4 => ?_⟩
        · simp (disch := omega) only [fX0_hopeOf_45, fX0_hopeOf_60, qbI_s, qbL_s, qbV_s, qbR_s, qbR_n, qbN_s, qbN_n, qbIX_s, qbIX_n, qbVX_s, qbVX_n, cond_true, cond_false, cond_dec, jadd, jsub, jmul, jneg, li_0, li_1, li_2, li_3, li_4, li_5, li_6, li_7, li_8, li_9, li_10, li_14, li_15, li_16, li_19, li_20, li_24, li_30, li_31, li_32, li_39, li_40, li_48, li_57, li_59, li_60, li_63, li_65, li_80, li_81, li_90, li_97, li_99, li_100, li_122, li_126, li_127, li_150, li_160, li_200, li_225, li_255, li_400, li_799, li_800, li_999, li_2400, li_3239, li_3240, li_1048575, li_1431655765, li_858993459, li_252645135, eqb_j, ltb_j, leb_j, inb_j, ix_j, ix_n, nz_b, nz_0, nz_1, eqb_b, bnot, vI_ne, vI_eq, gIL, gLI, gIR, gRI, gLR, gRL, Int.reduceLT, Int.reduceLE, Int.reduceEq, Int.reduceAdd, Int.reduceSub, Int.reduceMul, Int.reduceNeg, Int.reduceToNat, Nat.reduceEqDiff, reduceIte, if_neg, if_pos, gI_ne, hh, show bI false = 0 from rfl]
          exact i1
        · by_cases e : s' = s
          · rw [e] at h3 h4
            rw [h3, h4] at hb
            cases hb
          · exact i4 s' (by omega) h2 h3 h4
      · rw [hb] at hh
        have gr := gnU_r d0 hD (p i) s hpi.1 (by omega)
        have gs := gainU_s m d0 hC (p i) s hpi.1 hpi.2 (by omega)
        obtain ⟨h, i1, i2, i3, i4⟩ := ih (s + 1) g (max v (gnU d0 (p i) s)) (by omega) (by omega) (by omega)
        refine ⟨h, ?_, by omega, i3, fun s' h1 h2 h3 h4 => ?_⟩
        · have mx := maxL_s v (gnU d0 (p i) s) (by omega) m
          have := hpi.1
          simp (disch := omega) only [fX0_hopeOf_45, fX0_hopeOf_60, qbI_s, qbL_s, qbV_s, qbR_s, qbR_n, qbN_s, qbN_n, qbIX_s, qbIX_n, qbVX_s, qbVX_n, cond_true, cond_false, cond_dec, jadd, jsub, jmul, jneg, li_0, li_1, li_2, li_3, li_4, li_5, li_6, li_7, li_8, li_9, li_10, li_14, li_15, li_16, li_19, li_20, li_24, li_30, li_31, li_32, li_39, li_40, li_48, li_57, li_59, li_60, li_63, li_65, li_80, li_81, li_90, li_97, li_99, li_100, li_122, li_126, li_127, li_150, li_160, li_200, li_225, li_255, li_400, li_799, li_800, li_999, li_2400, li_3239, li_3240, li_1048575, li_1431655765, li_858993459, li_252645135, eqb_j, ltb_j, leb_j, inb_j, ix_j, ix_n, nz_b, nz_0, nz_1, eqb_b, bnot, vI_ne, vI_eq, gIL, gLI, gIR, gRI, gLR, gRL, Int.reduceLT, Int.reduceLE, Int.reduceEq, Int.reduceAdd, Int.reduceSub, Int.reduceMul, Int.reduceNeg, Int.reduceToNat, Nat.reduceEqDiff, reduceIte, if_neg, if_pos, gI_ne, hh, gs, mx, show bI true = 1 from rfl]
          exact i1
        · by_cases e : s' = s
          · rw [e]; omega
          · exact i4 s' (by omega) h2 h3 h4
  have key1 : ∀ (r j g : Nat), j + r = N → r < g → (∀ j', j' < j → j' ≠ i → d0 123 (p j') ≠ d0 123 (p i)) → ∃ h, fX0_hopeOf_7 (fX0_hopeOf_45 FU) g (Zi i) (Zi (p i)) (Zi j) m = some (Zl h, m) ∧ HB d0 p al i h := by
    intro r
    induction r with
    | zero =>
      intro j g hj hg hne
      obtain ⟨g, rfl⟩ : ∃ g', g = g' + 1 := ⟨g - 1, by omega⟩
      obtain ⟨x, o1, o2, o3⟩ := open_s m d0 hC (p i) hpi.1 hpi.2
      obtain ⟨h, i1, i2, i3, i4⟩ := key2 (x &&& gI m 68 8) (fun s hs => by rw [b_and, o2 s hs, s3 s hs]) 20 0 FU 0 (by omega) (by rw [FU_d]; omega) (by omega)
      refine ⟨h, ?_, i2, i3, fun d hd s hs hm ha => ?_⟩
      · simp (disch := omega) only [fX0_hopeOf_7, qbI_s, qbL_s, qbV_s, qbR_s, qbR_n, qbN_s, qbN_n, qbIX_s, qbIX_n, qbVX_s, qbVX_n, cond_true, cond_false, cond_dec, jadd, jsub, jmul, jneg, li_0, li_1, li_2, li_3, li_4, li_5, li_6, li_7, li_8, li_9, li_10, li_14, li_15, li_16, li_19, li_20, li_24, li_30, li_31, li_32, li_39, li_40, li_48, li_57, li_59, li_60, li_63, li_65, li_80, li_81, li_90, li_97, li_99, li_100, li_122, li_126, li_127, li_150, li_160, li_200, li_225, li_255, li_400, li_799, li_800, li_999, li_2400, li_3239, li_3240, li_1048575, li_1431655765, li_858993459, li_252645135, eqb_j, ltb_j, leb_j, inb_j, ix_j, ix_n, nz_b, nz_0, nz_1, eqb_b, bnot, vI_ne, vI_eq, gIL, gLI, gIR, gRI, gLR, gRL, Int.reduceLT, Int.reduceLE, Int.reduceEq, Int.reduceAdd, Int.reduceSub, Int.reduceMul, Int.reduceNeg, Int.reduceToNat, Nat.reduceEqDiff, reduceIte, if_neg, if_pos, gI_ne, gIv 68, s1, o1, show ((0 : Int64)) = Zl 0 from rfl]
        rw [gIv 68] at i1
        exact i1
      · have fd := hd.f hP (by omega)
        have un := hd.un hP hi
        rw [gn_worth d fd.1 (p i) s un.2 un.1 (NC.of_mb hm)]
        have m0 : mbV d0 (p i) s = true := mb_down (fun c k hc => fd.2.1 c k hc) (fun o ho => hd.dn hP (by omega) o ho) hm
        · have := i4 s (by omega) hs m0 ha
          have eq : gnU d (p i) s = gnU d0 (p i) s := by
            have q := fd.2.1
            have hl : lfB d (d0 123 (p i)).toNat = lfB d0 (d0 123 (p i)).toNat := by
              funext k
              unfold lfB laidF
              have hk := (e4 (p i) hpi.1).1
              rw [Bool.eq_iff_iff, pd_iff, pd_iff]
              have same : ∀ o : Nat, d0 123 o = ((d0 123 (p i)).toNat : Nat) → d 125 o = d0 125 o := fun o ho => fd.2.2 o fun j' hj' e => by
                have := hne j' (by omega) (by omega)
                rw [e] at ho
                omega
              constructor
              · rintro ⟨o, g1, g2, g3⟩
                rw [q _ _ (by omega)] at g1 g2
                rw [same o g2] at g3
                exact ⟨o, g1, g2, g3⟩
              · rintro ⟨o, g1, g2, g3⟩
                refine ⟨o, ?_, ?_, ?_⟩
                · rw [q _ _ (by omega)]; exact g1
                · rw [q _ _ (by omega)]; exact g2
                · rw [same o g2]; exact g3
            unfold gnU muI ptAt
            simp (disch := omega) only [q, hl]
          omega
    | succ r ih =>
      intro j g hj hg hne
      obtain ⟨g, rfl⟩ : ∃ g', g = g' + 1 := ⟨g - 1, by omega⟩
      by_cases hji : j = i
      · obtain ⟨h, i1, i2⟩ := ih (j + 1) g (by omega) (by omega) (fun j' h1 h2 => hne j' (by omega) h2)
        refine ⟨h, ?_, i2⟩
        simp (disch := omega) only [fX0_hopeOf_7, fX0_hopeOf_31, qbI_s, qbL_s, qbV_s, qbR_s, qbR_n, qbN_s, qbN_n, qbIX_s, qbIX_n, qbVX_s, qbVX_n, cond_true, cond_false, cond_dec, jadd, jsub, jmul, jneg, li_0, li_1, li_2, li_3, li_4, li_5, li_6, li_7, li_8, li_9, li_10, li_14, li_15, li_16, li_19, li_20, li_24, li_30, li_31, li_32, li_39, li_40, li_48, li_57, li_59, li_60, li_63, li_65, li_80, li_81, li_90, li_97, li_99, li_100, li_122, li_126, li_127, li_150, li_160, li_200, li_225, li_255, li_400, li_799, li_800, li_999, li_2400, li_3239, li_3240, li_1048575, li_1431655765, li_858993459, li_252645135, eqb_j, ltb_j, leb_j, inb_j, ix_j, ix_n, nz_b, nz_0, nz_1, eqb_b, bnot, vI_ne, vI_eq, gIL, gLI, gIR, gRI, gLR, gRL, Int.reduceLT, Int.reduceLE, Int.reduceEq, Int.reduceAdd, Int.reduceSub, Int.reduceMul, Int.reduceNeg, Int.reduceToNat, Nat.reduceEqDiff, reduceIte, if_neg, if_pos, gI_ne, gIv 68, s1]
        exact i1
      · by_cases hf : d0 123 (p j) = d0 123 (p i)
        · have k1 := (e4 (p i) hpi.1).1
          have k3 := (e4 (p i) hpi.1).2.2.1
          have kf := (hC.2.2.1 (d0 123 (p i)).toNat (by omega)).2.2.2.2.2
          have hl := hpi.1
          obtain ⟨f, hf'⟩ : ∃ f : Nat, d0 123 (p i) = f := ⟨(d0 123 (p i)).toNat, by omega⟩
          rw [hf', Int.toNat_natCast] at kf
          have gg : fX4_greatestGain (Zi (p i)) m = some (Zl (muI d0 (p i) * 67108864 + 1048576 + 1024 + 1 + d0 121 f), m) := by
            rw [fX4_greatestGain_d]
            by_cases hm : d0 126 (p i) = 1
            · simp (disch := omega) only [fX4_greatestGain_0, fX4_greatestGain_9, qbI_s, qbL_s, qbV_s, qbR_s, qbR_n, qbN_s, qbN_n, qbIX_s, qbIX_n, qbVX_s, qbVX_n, cond_true, cond_false, cond_dec, jadd, jsub, jmul, jneg, li_0, li_1, li_2, li_3, li_4, li_5, li_6, li_7, li_8, li_9, li_10, li_14, li_15, li_16, li_19, li_20, li_24, li_30, li_31, li_32, li_39, li_40, li_48, li_57, li_59, li_60, li_63, li_65, li_80, li_81, li_90, li_97, li_99, li_100, li_122, li_126, li_127, li_150, li_160, li_200, li_225, li_255, li_400, li_799, li_800, li_999, li_2400, li_3239, li_3240, li_1048575, li_1431655765, li_858993459, li_252645135, eqb_j, ltb_j, leb_j, inb_j, ix_j, ix_n, nz_b, nz_0, nz_1, eqb_b, bnot, vI_ne, vI_eq, gIL, gLI, gIR, gRI, gLR, gRL, Int.reduceLT, Int.reduceLE, Int.reduceEq, Int.reduceAdd, Int.reduceSub, Int.reduceMul, Int.reduceNeg, Int.reduceToNat, Nat.reduceEqDiff, reduceIte, if_neg, if_pos, gI_ne, ll_0, ll_1, ll_3, ll_5, ll_9, ll_10, ll_13, ll_14, ll_19, ll_20, ll_32, ll_60, ll_126, ll_799, ll_1024, ll_1048576, ll_67108864, Zladd, Zlsub, Zlmul, Zlneg, toL, lg_lt, lg_gt, lg_le, gIv 61, gIv 59, k3.1, k1.1, hf', hm, fX3_yearsOf_d, fX3_yearsOf_0, gIv 54, kf.1]
              refine congrArg (fun z => some (Zl z, m)) ?_
              unfold muI
              rw [if_pos hm]
              omega
            · simp (disch := omega) only [fX4_greatestGain_0, fX4_greatestGain_9, qbI_s, qbL_s, qbV_s, qbR_s, qbR_n, qbN_s, qbN_n, qbIX_s, qbIX_n, qbVX_s, qbVX_n, cond_true, cond_false, cond_dec, jadd, jsub, jmul, jneg, li_0, li_1, li_2, li_3, li_4, li_5, li_6, li_7, li_8, li_9, li_10, li_14, li_15, li_16, li_19, li_20, li_24, li_30, li_31, li_32, li_39, li_40, li_48, li_57, li_59, li_60, li_63, li_65, li_80, li_81, li_90, li_97, li_99, li_100, li_122, li_126, li_127, li_150, li_160, li_200, li_225, li_255, li_400, li_799, li_800, li_999, li_2400, li_3239, li_3240, li_1048575, li_1431655765, li_858993459, li_252645135, eqb_j, ltb_j, leb_j, inb_j, ix_j, ix_n, nz_b, nz_0, nz_1, eqb_b, bnot, vI_ne, vI_eq, gIL, gLI, gIR, gRI, gLR, gRL, Int.reduceLT, Int.reduceLE, Int.reduceEq, Int.reduceAdd, Int.reduceSub, Int.reduceMul, Int.reduceNeg, Int.reduceToNat, Nat.reduceEqDiff, reduceIte, if_neg, if_pos, gI_ne, ll_0, ll_1, ll_3, ll_5, ll_9, ll_10, ll_13, ll_14, ll_19, ll_20, ll_32, ll_60, ll_126, ll_799, ll_1024, ll_1048576, ll_67108864, Zladd, Zlsub, Zlmul, Zlneg, toL, lg_lt, lg_gt, lg_le, gIv 61, gIv 59, k3.1, k1.1, hf', fX3_yearsOf_d, fX3_yearsOf_0, gIv 54, kf.1]
              refine congrArg (fun z => some (Zl z, m)) ?_
              unfold muI
              rw [if_neg hm]
              omega
          have mr := muI_r d0 (p i)
          refine ⟨muI d0 (p i) * 67108864 + 1048576 + 1024 + 1 + d0 121 f, ?_, ?_, ?_, fun d hd s hs hm ha => ?_⟩
          · have f1 := famL j (by omega)
            have f2 := famL i hi
            rw [hf] at f1
            simp (disch := omega) only [fX0_hopeOf_7, qbI_s, qbL_s, qbV_s, qbR_s, qbR_n, qbN_s, qbN_n, qbIX_s, qbIX_n, qbVX_s, qbVX_n, cond_true, cond_false, cond_dec, jadd, jsub, jmul, jneg, li_0, li_1, li_2, li_3, li_4, li_5, li_6, li_7, li_8, li_9, li_10, li_14, li_15, li_16, li_19, li_20, li_24, li_30, li_31, li_32, li_39, li_40, li_48, li_57, li_59, li_60, li_63, li_65, li_80, li_81, li_90, li_97, li_99, li_100, li_122, li_126, li_127, li_150, li_160, li_200, li_225, li_255, li_400, li_799, li_800, li_999, li_2400, li_3239, li_3240, li_1048575, li_1431655765, li_858993459, li_252645135, eqb_j, ltb_j, leb_j, inb_j, ix_j, ix_n, nz_b, nz_0, nz_1, eqb_b, bnot, vI_ne, vI_eq, gIL, gLI, gIR, gRI, gLR, gRL, Int.reduceLT, Int.reduceLE, Int.reduceEq, Int.reduceAdd, Int.reduceSub, Int.reduceMul, Int.reduceNeg, Int.reduceToNat, Nat.reduceEqDiff, reduceIte, if_neg, if_pos, gI_ne, gIv 68, s1, gIv 69, s2, f1, f2, gg]
          · omega
          · omega
          · have fd := hd.f hP (by omega)
            have un := hd.un hP hi
            rw [gn_worth d fd.1 (p i) s un.2 un.1 (NC.of_mb hm)]
            have g1 := (gnU_r d fd.1 (p i) s un.2 hs).2.1
            have g2 : muI d (p i) = muI d0 (p i) := by unfold muI; rw [fd.2.1 126 (p i) (by omega)]
            rw [g2, fd.2.1 123 (p i) (by omega), fd.2.1 121 _ (by omega), hf', Int.toNat_natCast] at g1
            omega
        · obtain ⟨h, i1, i2⟩ := ih (j + 1) g (by omega) (by omega) (fun j' h1 h2 => by
            by_cases e : j' = j
            · rw [e]; exact hf
            · exact hne j' (by omega) h2)
          refine ⟨h, ?_, i2⟩
          have f1 := famL j (by omega)
          have f2 := famL i hi
          have r1 := (e4 (p i) hpi.1).1
          have r2 := (e4 (p j) (hpp j (by omega)).1).1
          simp (disch := omega) only [fX0_hopeOf_7, fX0_hopeOf_31, qbI_s, qbL_s, qbV_s, qbR_s, qbR_n, qbN_s, qbN_n, qbIX_s, qbIX_n, qbVX_s, qbVX_n, cond_true, cond_false, cond_dec, jadd, jsub, jmul, jneg, li_0, li_1, li_2, li_3, li_4, li_5, li_6, li_7, li_8, li_9, li_10, li_14, li_15, li_16, li_19, li_20, li_24, li_30, li_31, li_32, li_39, li_40, li_48, li_57, li_59, li_60, li_63, li_65, li_80, li_81, li_90, li_97, li_99, li_100, li_122, li_126, li_127, li_150, li_160, li_200, li_225, li_255, li_400, li_799, li_800, li_999, li_2400, li_3239, li_3240, li_1048575, li_1431655765, li_858993459, li_252645135, eqb_j, ltb_j, leb_j, inb_j, ix_j, ix_n, nz_b, nz_0, nz_1, eqb_b, bnot, vI_ne, vI_eq, gIL, gLI, gIR, gRI, gLR, gRL, Int.reduceLT, Int.reduceLE, Int.reduceEq, Int.reduceAdd, Int.reduceSub, Int.reduceMul, Int.reduceNeg, Int.reduceToNat, Nat.reduceEqDiff, reduceIte, if_neg, if_pos, gI_ne, gIv 68, s1, gIv 69, s2, f1, f2]
          exact i1
  obtain ⟨h, i1, i2⟩ := key1 N 0 FU (by omega) (by rw [FU_d]; omega) (fun j' h1 => by omega)
  refine ⟨h, ?_, i2⟩
  rw [fX0_hopeOf_d]
  simp (disch := omega) only [fX0_hopeOf_0, qbI_s, qbL_s, qbV_s, qbR_s, qbR_n, qbN_s, qbN_n, qbIX_s, qbIX_n, qbVX_s, qbVX_n, cond_true, cond_false, cond_dec, jadd, jsub, jmul, jneg, li_0, li_1, li_2, li_3, li_4, li_5, li_6, li_7, li_8, li_9, li_10, li_14, li_15, li_16, li_19, li_20, li_24, li_30, li_31, li_32, li_39, li_40, li_48, li_57, li_59, li_60, li_63, li_65, li_80, li_81, li_90, li_97, li_99, li_100, li_122, li_126, li_127, li_150, li_160, li_200, li_225, li_255, li_400, li_799, li_800, li_999, li_2400, li_3239, li_3240, li_1048575, li_1431655765, li_858993459, li_252645135, eqb_j, ltb_j, leb_j, inb_j, ix_j, ix_n, nz_b, nz_0, nz_1, eqb_b, bnot, vI_ne, vI_eq, gIL, gLI, gIR, gRI, gLR, gRL, Int.reduceLT, Int.reduceLE, Int.reduceEq, Int.reduceAdd, Int.reduceSub, Int.reduceMul, Int.reduceNeg, Int.reduceToNat, Nat.reduceEqDiff, reduceIte, if_neg, if_pos, gI_ne, gIv 69, s2]
  exact i1
