/-! a token taken: numbers and closes, both machines -/
def MT (v : qM) (d : Nat → Int) (n p : Nat) : Prop := TM v d n ∧ p ≤ n ∧ vI v 98 14 = tF d n p ∧ vI v 98 15 = tU d n (tF d n p) ∧ vI v 98 16 = tK d n (tF d n p) ∧ (tK d n (tF d n p) = 2 → vI v 98 17 = nV d (tF d n p) (tU d n (tF d n p) - tF d n p))
theorem MT.of {v : qM} {d : Nat → Int} {n p : Nat} (hT : TM v d n) (h15 : vI v 98 15 = p) (hp : p ≤ n) : wp (fX13_scan v) (fun _ v' => MT v' d n p ∧ Fr (fun c k => c = 98 ∧ 14 ≤ k ∧ k ≤ 17) v v') := by
  obtain ⟨x, v', e, h1, h2, h3, h4, h5⟩ := scan_s v d n hT p h15 hp
  exact ⟨x, v', e, ⟨hT.mono fun c k hc => h1.1 c k (by omega), hp, h2, h3, h4, h5⟩, h1⟩
theorem MT.mono {v v' : qM} {d : Nat → Int} {n p : Nat} (h : MT v d n p) (q : ∀ c k, c = 98 ∧ 13 ≤ k ∧ k ≤ 17 ∨ c = 110 → gI v' c k = gI v c k) : MT v' d n p := ⟨h.1.mono fun c k hc => q c k (by omega), h.2.1, by rw [vI_of (q 98 14 (by omega))]; exact h.2.2.1, by rw [vI_of (q 98 15 (by omega))]; exact h.2.2.2.1, by rw [vI_of (q 98 16 (by omega))]; exact h.2.2.2.2.1, by rw [vI_of (q 98 17 (by omega))]; exact h.2.2.2.2.2⟩
theorem tok_num {d : Nat → Int} {n f : Nat} (h : tK d n f = 2) : tU d n f - f ≤ 3 ∧ ∀ i, f ≤ i → i < tU d n f → 48 ≤ d i ∧ d i ≤ 57 := by
  unfold tK at h
  split at h
  · omega
  · rename_i g0
    split at h
    · omega
    · rename_i c1
      split at h
      · rename_i c2
        obtain ⟨-, -, h3, -⟩ := mK_spec (dgtB d n) (n - f) f
        refine ⟨by split at h <;> omega, fun i h1 h2 => ?_⟩
        rw [tU, if_neg g0, if_neg c1, if_pos c2] at h2
        have := h3 i h1 h2
        unfold dgtB at this
        rw [Bool.and_eq_true, decide_eq_true_eq, decide_eq_true_eq] at this
        exact this.2
      · split at h <;> omega
theorem tok_pos {d : Nat → Int} {n f : Nat} (hf : f ≤ n) (h : ¬ tK d n f = 0) : f < tU d n f := by
  unfold tK at h
  split at h
  · omega
  · rename_i g0
    have s1 : smlB d n f = true → f < mK (smlB d n) f (n - f) := fun c => by
      rw [show n - f = (n - f - 1) + 1 by omega, mK_t c]
      have := (mK_spec (smlB d n) (n - f - 1) (f + 1)).1
      omega
    have s2 : dgtB d n f = true → f < mK (dgtB d n) f (n - f) := fun c => by
      rw [show n - f = (n - f - 1) + 1 by omega, mK_t c]
      have := (mK_spec (dgtB d n) (n - f - 1) (f + 1)).1
      omega
    unfold tU
    rw [if_neg g0]
    split
    · rename_i c; exact s1 c
    · split
      · rename_i c; exact s2 c
      · omega
theorem wrong_s (a : Int) (v : qM) : fX13_wrong (Zi a) v = some (some 109, sI (sI v 98 18 (Zi a)) 98 19 (gI v 98 14)) := by
  rw [fX13_wrong_d]
  simp only [fX13_wrong_0]
  rw [gI_sI, if_neg (by omega)]
theorem nV_cast {d : Nat → Int} {n f : Nat} (h : tK d n f = 2) : 0 ≤ nV d f (tU d n f - f) ∧ nV d f (tU d n f - f) ≤ 999 := by
  obtain ⟨h1, h2⟩ := tok_num h
  have := nV_r d f (tU d n f - f) h1 (fun i hi => h2 (f + i) (by omega) (by omega))
  omega
theorem number_s (v : qM) (d : Nat → Int) (n p : Nat) (hM : MT v d n p) (lo hi : Int) (hl : -2147483648 ≤ lo ∧ lo < 2147483648) (hh : -2147483648 ≤ hi ∧ hi < 2147483648) : wp (fX13_number (Zi lo) (Zi hi) v) (fun y v' => Fr (fun c k => c = 98 ∧ 14 ≤ k ∧ k ≤ 19) v v' ∧ ((tK d n (tF d n p) = 2 ∧ (lo ≤ nV d (tF d n p) (tU d n (tF d n p) - tF d n p) ∧ nV d (tF d n p) (tU d n (tF d n p) - tF d n p) ≤ hi) ∧ y = some (Zi (nV d (tF d n p) (tU d n (tF d n p) - tF d n p))) ∧ MT v' d n (tU d n (tF d n p)) ∧ gI v' 98 18 = gI v 98 18 ∧ gI v' 98 19 = gI v 98 19) ∨ (tK d n (tF d n p) = 2 ∧ ¬ (lo ≤ nV d (tF d n p) (tU d n (tF d n p) - tF d n p) ∧ nV d (tF d n p) (tU d n (tF d n p) - tF d n p) ≤ hi) ∧ y = none ∧ vI v' 98 18 = 2 ∧ vI v' 98 19 = tF d n p) ∨ (¬ tK d n (tF d n p) = 2 ∧ y = none ∧ vI v' 98 18 = 1 ∧ vI v' 98 19 = tF d n p))) := by
  obtain ⟨hT, hp, h14, h15, h16, h17⟩ := hM
  have hn := hT.2.1
  obtain ⟨f1, f2⟩ := tF_r d n p hp
  generalize tF d n p = f at *
  obtain ⟨u1, u2⟩ := tU_r d n f f2
  have kr := tK_r d n f
  have w2 : ∀ a : Int, -2147483648 ≤ a ∧ a < 2147483648 → Fr (fun c k => c = 98 ∧ 14 ≤ k ∧ k ≤ 19) v (sI (sI v 98 18 (Zi a)) 98 19 (gI v 98 14)) ∧ vI (sI (sI v 98 18 (Zi a)) 98 19 (gI v 98 14)) 98 18 = a ∧ vI (sI (sI v 98 18 (Zi a)) 98 19 (gI v 98 14)) 98 19 = f := fun a ha => by
    refine ⟨((Fr.rf v).wI 98 18 _ (by omega)).wI 98 19 _ (by omega), ?_, ?_⟩
    · rw [vI_nk (by omega), vI_eq ha, if_pos rfl]
    · rw [gIv 98, h14, vI_eq (by omega), if_pos rfl]
  rw [fX13_number_d]
  by_cases g2 : tK d n f = 2
  · have h17' := h17 g2
    have nr := nV_cast g2
    generalize nV d f (tU d n f - f) = z at *
    by_cases g3 : lo ≤ z ∧ z ≤ hi
    · obtain ⟨x, v', e, hM', hF⟩ := MT.of hT h15 u2
      refine wp_e (x := some (Zi z)) (m := v') ?_ ⟨hF.wide fun c k hc => by omega, Or.inl ⟨g2, g3, rfl, hM', hF.1 98 18 (by omega), hF.1 98 19 (by omega)⟩⟩
      simp (disch := omega) only [fX13_number_0, qbI_s, qbL_s, qbV_s, qbR_s, qbR_n, qbN_s, qbN_n, qbIX_s, qbIX_n, qbVX_s, qbVX_n, cond_true, cond_false, cond_dec, jadd, jsub, jmul, jneg, li_0, li_1, li_2, li_3, li_4, li_5, li_6, li_7, li_8, li_9, li_10, li_14, li_15, li_16, li_19, li_20, li_24, li_30, li_31, li_32, li_39, li_40, li_48, li_57, li_59, li_60, li_63, li_65, li_80, li_81, li_90, li_97, li_99, li_100, li_122, li_126, li_127, li_150, li_160, li_200, li_225, li_255, li_400, li_799, li_800, li_999, li_2400, li_3239, li_3240, li_1048575, li_1431655765, li_858993459, li_252645135, eqb_j, ltb_j, leb_j, inb_j, ix_j, ix_n, nz_b, nz_0, nz_1, eqb_b, bnot, vI_ne, vI_eq, gIL, gLI, gIR, gRI, gLR, gRL, Int.reduceLT, Int.reduceLE, Int.reduceEq, Int.reduceAdd, Int.reduceSub, Int.reduceMul, Int.reduceNeg, Int.reduceToNat, Nat.reduceEqDiff, reduceIte, if_neg, if_pos, gI_ne, ll_0, ll_1, ll_3, ll_5, ll_9, ll_10, ll_13, ll_14, ll_19, ll_20, ll_32, ll_60, ll_126, ll_799, ll_1024, ll_1048576, ll_67108864, Zladd, Zlsub, Zlmul, Zlneg, toL, lg_lt, lg_gt, lg_le, gIv 98, h16, g2, h17', in_s, bI_dec, e]
    · obtain ⟨a1, a2, a3⟩ := w2 2 (by omega)
      refine wp_e (x := none) (m := sI (sI v 98 18 (Zi 2)) 98 19 (gI v 98 14)) ?_ ⟨a1, Or.inr (Or.inl ⟨g2, g3, rfl, a2, a3⟩)⟩
      simp (disch := omega) only [fX13_number_0, qbI_s, qbL_s, qbV_s, qbR_s, qbR_n, qbN_s, qbN_n, qbIX_s, qbIX_n, qbVX_s, qbVX_n, cond_true, cond_false, cond_dec, jadd, jsub, jmul, jneg, li_0, li_1, li_2, li_3, li_4, li_5, li_6, li_7, li_8, li_9, li_10, li_14, li_15, li_16, li_19, li_20, li_24, li_30, li_31, li_32, li_39, li_40, li_48, li_57, li_59, li_60, li_63, li_65, li_80, li_81, li_90, li_97, li_99, li_100, li_122, li_126, li_127, li_150, li_160, li_200, li_225, li_255, li_400, li_799, li_800, li_999, li_2400, li_3239, li_3240, li_1048575, li_1431655765, li_858993459, li_252645135, eqb_j, ltb_j, leb_j, inb_j, ix_j, ix_n, nz_b, nz_0, nz_1, eqb_b, bnot, vI_ne, vI_eq, gIL, gLI, gIR, gRI, gLR, gRL, Int.reduceLT, Int.reduceLE, Int.reduceEq, Int.reduceAdd, Int.reduceSub, Int.reduceMul, Int.reduceNeg, Int.reduceToNat, Nat.reduceEqDiff, reduceIte, if_neg, if_pos, gI_ne, ll_0, ll_1, ll_3, ll_5, ll_9, ll_10, ll_13, ll_14, ll_19, ll_20, ll_32, ll_60, ll_126, ll_799, ll_1024, ll_1048576, ll_67108864, Zladd, Zlsub, Zlmul, Zlneg, toL, lg_lt, lg_gt, lg_le, gIv 98, h16, g2, h17', in_s, bI_dec, wrong_s, show Nat.beq 109 109 = true from rfl]
  · obtain ⟨a1, a2, a3⟩ := w2 1 (by omega)
    refine wp_e (x := none) (m := sI (sI v 98 18 (Zi 1)) 98 19 (gI v 98 14)) ?_ ⟨a1, Or.inr (Or.inr ⟨g2, rfl, a2, a3⟩)⟩
    simp (disch := omega) only [fX13_number_0, qbI_s, qbL_s, qbV_s, qbR_s, qbR_n, qbN_s, qbN_n, qbIX_s, qbIX_n, qbVX_s, qbVX_n, cond_true, cond_false, cond_dec, jadd, jsub, jmul, jneg, li_0, li_1, li_2, li_3, li_4, li_5, li_6, li_7, li_8, li_9, li_10, li_14, li_15, li_16, li_19, li_20, li_24, li_30, li_31, li_32, li_39, li_40, li_48, li_57, li_59, li_60, li_63, li_65, li_80, li_81, li_90, li_97, li_99, li_100, li_122, li_126, li_127, li_150, li_160, li_200, li_225, li_255, li_400, li_799, li_800, li_999, li_2400, li_3239, li_3240, li_1048575, li_1431655765, li_858993459, li_252645135, eqb_j, ltb_j, leb_j, inb_j, ix_j, ix_n, nz_b, nz_0, nz_1, eqb_b, bnot, vI_ne, vI_eq, gIL, gLI, gIR, gRI, gLR, gRL, Int.reduceLT, Int.reduceLE, Int.reduceEq, Int.reduceAdd, Int.reduceSub, Int.reduceMul, Int.reduceNeg, Int.reduceToNat, Nat.reduceEqDiff, reduceIte, if_neg, if_pos, gI_ne, gIv 98, h16, wrong_s, show Nat.beq 109 109 = true from rfl]
theorem close_s (v : qM) (d : Nat → Int) (n p : Nat) (hM : MT v d n p) : wp (fX13_close v) (fun y v' => Fr (fun c k => c = 98 ∧ 14 ≤ k ∧ k ≤ 19) v v' ∧ ((tK d n (tF d n p) = 3 ∧ y = some () ∧ MT v' d n (tU d n (tF d n p)) ∧ gI v' 98 18 = gI v 98 18 ∧ gI v' 98 19 = gI v 98 19) ∨ (¬ tK d n (tF d n p) = 3 ∧ y = none ∧ vI v' 98 18 = 1 ∧ vI v' 98 19 = tF d n p))) := by
  obtain ⟨hT, hp, h14, h15, h16, h17⟩ := hM
  have hn := hT.2.1
  obtain ⟨f1, f2⟩ := tF_r d n p hp
  generalize tF d n p = f at *
  obtain ⟨u1, u2⟩ := tU_r d n f f2
  have kr := tK_r d n f
  rw [fX13_close_d]
  by_cases g2 : tK d n f = 3
  · obtain ⟨x, v', e, hM', hF⟩ := MT.of hT h15 u2
    refine wp_e (x := some ()) (m := v') ?_ ⟨hF.wide fun c k hc => by omega, Or.inl ⟨g2, rfl, hM', hF.1 98 18 (by omega), hF.1 98 19 (by omega)⟩⟩
    simp (disch := omega) only [fX13_close_0, qbI_s, qbL_s, qbV_s, qbR_s, qbR_n, qbN_s, qbN_n, qbIX_s, qbIX_n, qbVX_s, qbVX_n, cond_true, cond_false, cond_dec, jadd, jsub, jmul, jneg, li_0, li_1, li_2, li_3, li_4, li_5, li_6, li_7, li_8, li_9, li_10, li_14, li_15, li_16, li_19, li_20, li_24, li_30, li_31, li_32, li_39, li_40, li_48, li_57, li_59, li_60, li_63, li_65, li_80, li_81, li_90, li_97, li_99, li_100, li_122, li_126, li_127, li_150, li_160, li_200, li_225, li_255, li_400, li_799, li_800, li_999, li_2400, li_3239, li_3240, li_1048575, li_1431655765, li_858993459, li_252645135, eqb_j, ltb_j, leb_j, inb_j, ix_j, ix_n, nz_b, nz_0, nz_1, eqb_b, bnot, vI_ne, vI_eq, gIL, gLI, gIR, gRI, gLR, gRL, Int.reduceLT, Int.reduceLE, Int.reduceEq, Int.reduceAdd, Int.reduceSub, Int.reduceMul, Int.reduceNeg, Int.reduceToNat, Nat.reduceEqDiff, reduceIte, if_neg, if_pos, gI_ne, gIv 98, h16, g2, e, show (3 : Int32) = Zi 3 from rfl]
  · refine wp_e (x := none) (m := sI (sI v 98 18 (Zi 1)) 98 19 (gI v 98 14)) ?_ ⟨((Fr.rf v).wI 98 18 _ (by omega)).wI 98 19 _ (by omega), Or.inr ⟨g2, rfl, ?_, ?_⟩⟩
    · simp (disch := omega) only [fX13_close_0, qbI_s, qbL_s, qbV_s, qbR_s, qbR_n, qbN_s, qbN_n, qbIX_s, qbIX_n, qbVX_s, qbVX_n, cond_true, cond_false, cond_dec, jadd, jsub, jmul, jneg, li_0, li_1, li_2, li_3, li_4, li_5, li_6, li_7, li_8, li_9, li_10, li_14, li_15, li_16, li_19, li_20, li_24, li_30, li_31, li_32, li_39, li_40, li_48, li_57, li_59, li_60, li_63, li_65, li_80, li_81, li_90, li_97, li_99, li_100, li_122, li_126, li_127, li_150, li_160, li_200, li_225, li_255, li_400, li_799, li_800, li_999, li_2400, li_3239, li_3240, li_1048575, li_1431655765, li_858993459, li_252645135, eqb_j, ltb_j, leb_j, inb_j, ix_j, ix_n, nz_b, nz_0, nz_1, eqb_b, bnot, vI_ne, vI_eq, gIL, gLI, gIR, gRI, gLR, gRL, Int.reduceLT, Int.reduceLE, Int.reduceEq, Int.reduceAdd, Int.reduceSub, Int.reduceMul, Int.reduceNeg, Int.reduceToNat, Nat.reduceEqDiff, reduceIte, if_neg, if_pos, gI_ne, gIv 98, h16, wrong_s, show Nat.beq 109 109 = true from rfl]
    · rw [vI_nk (by omega), vI_eq (by omega), if_pos rfl]
    · rw [gIv 98, h14, vI_eq (by omega), if_pos rfl]
theorem fail_s (a : Int) (w : qM) : fX6_fail (Zi a) w = some (Zi (-1), sI (sI w 3 4 (Zi a)) 3 5 (gI w 3 2)) := by
  rw [fX6_fail_d]
  simp only [fX6_fail_0]
  rw [gI_sI, if_neg (by omega)]
  rfl
theorem takeNum_s (m : qM) (d : Nat → Int) (n p : Nat) (hT : TC m d n) (h33 : vI m 3 3 = p) (hp : p ≤ n) (lo hi : Int) (hl : -2147483648 ≤ lo ∧ lo < 2147483648) (hh : -2147483648 ≤ hi ∧ hi < 2147483648) : wp (fX6_takeNumber (Zi lo) (Zi hi) m) (fun y v' => Fr (fun c k => c = 3 ∧ 1 ≤ k ∧ k ≤ 5) m v' ∧ ((tK d n (tF d n p) = 2 ∧ (lo ≤ nV d (tF d n p) (tU d n (tF d n p) - tF d n p) ∧ nV d (tF d n p) (tU d n (tF d n p) - tF d n p) ≤ hi) ∧ y = Zi (nV d (tF d n p) (tU d n (tF d n p) - tF d n p)) ∧ vI v' 3 3 = tU d n (tF d n p) ∧ gI v' 3 4 = gI m 3 4 ∧ gI v' 3 5 = gI m 3 5) ∨ (tK d n (tF d n p) = 2 ∧ ¬ (lo ≤ nV d (tF d n p) (tU d n (tF d n p) - tF d n p) ∧ nV d (tF d n p) (tU d n (tF d n p) - tF d n p) ≤ hi) ∧ y = Zi (-1) ∧ vI v' 3 4 = 2 ∧ vI v' 3 5 = tF d n p) ∨ (¬ tK d n (tF d n p) = 2 ∧ y = Zi (-1) ∧ vI v' 3 4 = 1 ∧ vI v' 3 5 = tF d n p))) := by
  have hn := hT.2.1
  obtain ⟨f1, f2⟩ := tF_r d n p hp
  obtain ⟨x, w, e, hF, h2, h3, h1⟩ := step_s m d n hT p h33 hp
  have hTw : TC w d n := hT.mono fun c k hc => hF.1 c k (by omega)
  generalize tF d n p = f at *
  obtain ⟨u1, u2⟩ := tU_r d n f f2
  have kr := tK_r d n f
  have w2 : ∀ a : Int, -2147483648 ≤ a ∧ a < 2147483648 → Fr (fun c k => c = 3 ∧ 1 ≤ k ∧ k ≤ 5) m (sI (sI w 3 4 (Zi a)) 3 5 (gI w 3 2)) ∧ vI (sI (sI w 3 4 (Zi a)) 3 5 (gI w 3 2)) 3 4 = a ∧ vI (sI (sI w 3 4 (Zi a)) 3 5 (gI w 3 2)) 3 5 = f := fun a ha => by
    refine ⟨((hF.wide fun c k hc => by omega).wI 3 4 _ (by omega)).wI 3 5 _ (by omega), ?_, ?_⟩
    · rw [vI_nk (by omega), vI_eq ha, if_pos rfl]
    · rw [gIv 3, h2, vI_eq (by omega), if_pos rfl]
  rw [fX6_takeNumber_d]
  by_cases g2 : tK d n f = 2
  · have nr := nV_cast g2
    obtain ⟨n1, n2⟩ := tok_num g2
    obtain ⟨F, hFU⟩ : ∃ F, FU - (tU d n f - f) = F + 1 := ⟨FU - (tU d n f - f) - 1, by rw [FU_d]; omega⟩
    have hk := numC w d n hTw f (tU d n f) h3 ⟨u1, u2⟩ n1 n2 lo hi fX6_takeNumber_42 (tU d n f - f) f FU (by omega) (by rw [FU_d]; omega) (Nat.le_refl _)
    rw [hFU, Nat.sub_self] at hk
    have hk2 : fX6_takeNumber_15 fX6_takeNumber_42 FU (Zi lo) (Zi hi) (Zi 0) (Zi f) w = _ := hk
    clear hk
    generalize nV d f (tU d n f - f) = z at *
    by_cases g3 : lo ≤ z ∧ z ≤ hi
    · refine wp_e (x := Zi z) (m := w) ?_ ⟨hF.wide fun c k hc => by omega, Or.inl ⟨g2, g3, rfl, h3, hF.1 3 4 (by omega), hF.1 3 5 (by omega)⟩⟩
      simp (disch := omega) only [fX6_takeNumber_0, qbI_s, qbL_s, qbV_s, qbR_s, qbR_n, qbN_s, qbN_n, qbIX_s, qbIX_n, qbVX_s, qbVX_n, cond_true, cond_false, cond_dec, jadd, jsub, jmul, jneg, li_0, li_1, li_2, li_3, li_4, li_5, li_6, li_7, li_8, li_9, li_10, li_14, li_15, li_16, li_19, li_20, li_24, li_30, li_31, li_32, li_39, li_40, li_48, li_57, li_59, li_60, li_63, li_65, li_80, li_81, li_90, li_97, li_99, li_100, li_122, li_126, li_127, li_150, li_160, li_200, li_225, li_255, li_400, li_799, li_800, li_999, li_2400, li_3239, li_3240, li_1048575, li_1431655765, li_858993459, li_252645135, eqb_j, ltb_j, leb_j, inb_j, ix_j, ix_n, nz_b, nz_0, nz_1, eqb_b, bnot, vI_ne, vI_eq, gIL, gLI, gIR, gRI, gLR, gRL, Int.reduceLT, Int.reduceLE, Int.reduceEq, Int.reduceAdd, Int.reduceSub, Int.reduceMul, Int.reduceNeg, Int.reduceToNat, Nat.reduceEqDiff, reduceIte, if_neg, if_pos, gI_ne, e, gIv 3, h1, g2, h2, hk2]
      rw [fX6_takeNumber_15]
      simp (disch := omega) only [fX6_takeNumber_42, qbI_s, qbL_s, qbV_s, qbR_s, qbR_n, qbN_s, qbN_n, qbIX_s, qbIX_n, qbVX_s, qbVX_n, cond_true, cond_false, cond_dec, jadd, jsub, jmul, jneg, li_0, li_1, li_2, li_3, li_4, li_5, li_6, li_7, li_8, li_9, li_10, li_14, li_15, li_16, li_19, li_20, li_24, li_30, li_31, li_32, li_39, li_40, li_48, li_57, li_59, li_60, li_63, li_65, li_80, li_81, li_90, li_97, li_99, li_100, li_122, li_126, li_127, li_150, li_160, li_200, li_225, li_255, li_400, li_799, li_800, li_999, li_2400, li_3239, li_3240, li_1048575, li_1431655765, li_858993459, li_252645135, eqb_j, ltb_j, leb_j, inb_j, ix_j, ix_n, nz_b, nz_0, nz_1, eqb_b, bnot, vI_ne, vI_eq, gIL, gLI, gIR, gRI, gLR, gRL, Int.reduceLT, Int.reduceLE, Int.reduceEq, Int.reduceAdd, Int.reduceSub, Int.reduceMul, Int.reduceNeg, Int.reduceToNat, Nat.reduceEqDiff, reduceIte, if_neg, if_pos, gI_ne, gIv 3, h3, within_s, bI_dec]
    · obtain ⟨a1, a2, a3⟩ := w2 2 (by omega)
      refine wp_e (x := Zi (-1)) (m := sI (sI w 3 4 (Zi 2)) 3 5 (gI w 3 2)) ?_ ⟨a1, Or.inr (Or.inl ⟨g2, g3, rfl, a2, a3⟩)⟩
      simp (disch := omega) only [fX6_takeNumber_0, qbI_s, qbL_s, qbV_s, qbR_s, qbR_n, qbN_s, qbN_n, qbIX_s, qbIX_n, qbVX_s, qbVX_n, cond_true, cond_false, cond_dec, jadd, jsub, jmul, jneg, li_0, li_1, li_2, li_3, li_4, li_5, li_6, li_7, li_8, li_9, li_10, li_14, li_15, li_16, li_19, li_20, li_24, li_30, li_31, li_32, li_39, li_40, li_48, li_57, li_59, li_60, li_63, li_65, li_80, li_81, li_90, li_97, li_99, li_100, li_122, li_126, li_127, li_150, li_160, li_200, li_225, li_255, li_400, li_799, li_800, li_999, li_2400, li_3239, li_3240, li_1048575, li_1431655765, li_858993459, li_252645135, eqb_j, ltb_j, leb_j, inb_j, ix_j, ix_n, nz_b, nz_0, nz_1, eqb_b, bnot, vI_ne, vI_eq, gIL, gLI, gIR, gRI, gLR, gRL, Int.reduceLT, Int.reduceLE, Int.reduceEq, Int.reduceAdd, Int.reduceSub, Int.reduceMul, Int.reduceNeg, Int.reduceToNat, Nat.reduceEqDiff, reduceIte, if_neg, if_pos, gI_ne, e, gIv 3, h1, g2, h2, hk2]
      rw [fX6_takeNumber_15]
      simp (disch := omega) only [fX6_takeNumber_42, qbI_s, qbL_s, qbV_s, qbR_s, qbR_n, qbN_s, qbN_n, qbIX_s, qbIX_n, qbVX_s, qbVX_n, cond_true, cond_false, cond_dec, jadd, jsub, jmul, jneg, li_0, li_1, li_2, li_3, li_4, li_5, li_6, li_7, li_8, li_9, li_10, li_14, li_15, li_16, li_19, li_20, li_24, li_30, li_31, li_32, li_39, li_40, li_48, li_57, li_59, li_60, li_63, li_65, li_80, li_81, li_90, li_97, li_99, li_100, li_122, li_126, li_127, li_150, li_160, li_200, li_225, li_255, li_400, li_799, li_800, li_999, li_2400, li_3239, li_3240, li_1048575, li_1431655765, li_858993459, li_252645135, eqb_j, ltb_j, leb_j, inb_j, ix_j, ix_n, nz_b, nz_0, nz_1, eqb_b, bnot, vI_ne, vI_eq, gIL, gLI, gIR, gRI, gLR, gRL, Int.reduceLT, Int.reduceLE, Int.reduceEq, Int.reduceAdd, Int.reduceSub, Int.reduceMul, Int.reduceNeg, Int.reduceToNat, Nat.reduceEqDiff, reduceIte, if_neg, if_pos, gI_ne, gIv 3, h2, h3, within_s, bI_dec, fail_s]
  · obtain ⟨a1, a2, a3⟩ := w2 1 (by omega)
    refine wp_e (x := Zi (-1)) (m := sI (sI w 3 4 (Zi 1)) 3 5 (gI w 3 2)) ?_ ⟨a1, Or.inr (Or.inr ⟨g2, rfl, a2, a3⟩)⟩
    simp (disch := omega) only [fX6_takeNumber_0, qbI_s, qbL_s, qbV_s, qbR_s, qbR_n, qbN_s, qbN_n, qbIX_s, qbIX_n, qbVX_s, qbVX_n, cond_true, cond_false, cond_dec, jadd, jsub, jmul, jneg, li_0, li_1, li_2, li_3, li_4, li_5, li_6, li_7, li_8, li_9, li_10, li_14, li_15, li_16, li_19, li_20, li_24, li_30, li_31, li_32, li_39, li_40, li_48, li_57, li_59, li_60, li_63, li_65, li_80, li_81, li_90, li_97, li_99, li_100, li_122, li_126, li_127, li_150, li_160, li_200, li_225, li_255, li_400, li_799, li_800, li_999, li_2400, li_3239, li_3240, li_1048575, li_1431655765, li_858993459, li_252645135, eqb_j, ltb_j, leb_j, inb_j, ix_j, ix_n, nz_b, nz_0, nz_1, eqb_b, bnot, vI_ne, vI_eq, gIL, gLI, gIR, gRI, gLR, gRL, Int.reduceLT, Int.reduceLE, Int.reduceEq, Int.reduceAdd, Int.reduceSub, Int.reduceMul, Int.reduceNeg, Int.reduceToNat, Nat.reduceEqDiff, reduceIte, if_neg, if_pos, gI_ne, e, gIv 3, h1, h2, fail_s]
theorem takeSemi_s (m : qM) (d : Nat → Int) (n p : Nat) (hT : TC m d n) (h33 : vI m 3 3 = p) (hp : p ≤ n) : wp (fX6_takeSemicolon m) (fun y v' => Fr (fun c k => c = 3 ∧ 1 ≤ k ∧ k ≤ 5) m v' ∧ ((tK d n (tF d n p) = 3 ∧ y = Zi 1 ∧ vI v' 3 3 = tU d n (tF d n p) ∧ gI v' 3 4 = gI m 3 4 ∧ gI v' 3 5 = gI m 3 5) ∨ (¬ tK d n (tF d n p) = 3 ∧ y = Zi 0 ∧ vI v' 3 4 = 1 ∧ vI v' 3 5 = tF d n p))) := by
  have hn := hT.2.1
  obtain ⟨f1, f2⟩ := tF_r d n p hp
  obtain ⟨x, w, e, hF, h2, h3, h1⟩ := step_s m d n hT p h33 hp
  generalize tF d n p = f at *
  obtain ⟨u1, u2⟩ := tU_r d n f f2
  have kr := tK_r d n f
  rw [fX6_takeSemicolon_d]
  by_cases g2 : tK d n f = 3
  · refine wp_e (x := Zi 1) (m := w) ?_ ⟨hF.wide fun c k hc => by omega, Or.inl ⟨g2, rfl, h3, hF.1 3 4 (by omega), hF.1 3 5 (by omega)⟩⟩
    simp (disch := omega) only [fX6_takeSemicolon_0, fX6_takeSemicolon_10, fX6_takeSemicolon_17, qbI_s, qbL_s, qbV_s, qbR_s, qbR_n, qbN_s, qbN_n, qbIX_s, qbIX_n, qbVX_s, qbVX_n, cond_true, cond_false, cond_dec, jadd, jsub, jmul, jneg, li_0, li_1, li_2, li_3, li_4, li_5, li_6, li_7, li_8, li_9, li_10, li_14, li_15, li_16, li_19, li_20, li_24, li_30, li_31, li_32, li_39, li_40, li_48, li_57, li_59, li_60, li_63, li_65, li_80, li_81, li_90, li_97, li_99, li_100, li_122, li_126, li_127, li_150, li_160, li_200, li_225, li_255, li_400, li_799, li_800, li_999, li_2400, li_3239, li_3240, li_1048575, li_1431655765, li_858993459, li_252645135, eqb_j, ltb_j, leb_j, inb_j, ix_j, ix_n, nz_b, nz_0, nz_1, eqb_b, bnot, vI_ne, vI_eq, gIL, gLI, gIR, gRI, gLR, gRL, Int.reduceLT, Int.reduceLE, Int.reduceEq, Int.reduceAdd, Int.reduceSub, Int.reduceMul, Int.reduceNeg, Int.reduceToNat, Nat.reduceEqDiff, reduceIte, if_neg, if_pos, gI_ne, e, gIv 3, h1, g2]
  · refine wp_e (x := Zi 0) (m := sI (sI w 3 4 (Zi 1)) 3 5 (gI w 3 2)) ?_ ⟨((hF.wide fun c k hc => by omega).wI 3 4 _ (by omega)).wI 3 5 _ (by omega), Or.inr ⟨g2, rfl, ?_, ?_⟩⟩
    · have v31 : vI (sI (sI w 3 4 (Zi 1)) 3 5 (Zi (vI w 3 2))) 3 1 = tK d n f := by rw [vI_nk (by omega), vI_nk (by omega), h1]
      simp (disch := omega) only [fX6_takeSemicolon_0, fX6_takeSemicolon_10, fX6_takeSemicolon_17, qbI_s, qbL_s, qbV_s, qbR_s, qbR_n, qbN_s, qbN_n, qbIX_s, qbIX_n, qbVX_s, qbVX_n, cond_true, cond_false, cond_dec, jadd, jsub, jmul, jneg, li_0, li_1, li_2, li_3, li_4, li_5, li_6, li_7, li_8, li_9, li_10, li_14, li_15, li_16, li_19, li_20, li_24, li_30, li_31, li_32, li_39, li_40, li_48, li_57, li_59, li_60, li_63, li_65, li_80, li_81, li_90, li_97, li_99, li_100, li_122, li_126, li_127, li_150, li_160, li_200, li_225, li_255, li_400, li_799, li_800, li_999, li_2400, li_3239, li_3240, li_1048575, li_1431655765, li_858993459, li_252645135, eqb_j, ltb_j, leb_j, inb_j, ix_j, ix_n, nz_b, nz_0, nz_1, eqb_b, bnot, vI_ne, vI_eq, gIL, gLI, gIR, gRI, gLR, gRL, Int.reduceLT, Int.reduceLE, Int.reduceEq, Int.reduceAdd, Int.reduceSub, Int.reduceMul, Int.reduceNeg, Int.reduceToNat, Nat.reduceEqDiff, reduceIte, if_neg, if_pos, gI_ne, e, gIv 3, h1, fail_s, v31]
    · rw [vI_nk (by omega), vI_eq (by omega), if_pos rfl]
    · rw [gIv 3, h2, vI_eq (by omega), if_pos rfl]
