/-! the evening as it is known: the reference goes through; the class's row -/
def VD (d : Nat → Nat → Int) (K : Nat) (u : Int) (v : qM) : Prop := (∀ c k, dE c k → vI v c k = d c k) ∧ ((K : Int) ≤ vI v 98 52 ∧ vI v 98 52 ≤ 80) ∧ (-1 ≤ u ∧ u ≤ 799) ∧ (∀ k, k < K → ∀ c, 134 ≤ c → c ≤ 138 → vI v c k = d c k) ∧ (∀ k, k < K → d 134 k ≤ u) ∧ (vI v 98 52 = K ∨ u < vI v 134 K)
theorem VD.mono {d : Nat → Nat → Int} {K : Nat} {u : Int} {v v' : qM} (h : VD d K u v) (q : ∀ c k, dE c k ∨ 134 ≤ c ∧ c ≤ 138 ∨ c = 98 ∧ k = 52 → gI v' c k = gI v c k) : VD d K u v' := by
  obtain ⟨h1, h2, h3, h4, h5, h6⟩ := h
  have e52 := vI_of (q 98 52 (by omega))
  refine ⟨fun c k hc => by rw [vI_of (q c k (Or.inl hc))]; exact h1 c k hc, by rw [e52]; exact h2, h3, fun k hk c c1 c2 => by rw [vI_of (q c k (by omega))]; exact h4 k hk c c1 c2, h5, ?_⟩
  rw [e52, vI_of (q 134 K (by omega))]
  exact h6
def knR (d : Nat → Nat → Int) (i : Nat) (v : qM) : Prop := (∀ a : Nat, (a : Int) < d 98 32 → vI v 139 a = inE d i 139 a ∧ vI v 148 a = inE d i 148 a) ∧ ∀ f, f < 15 → vI v 140 f = inE d i 140 f
theorem kno48 {v0 : qM} {d : Nat → Nat → Int} {K : Nat} {u : Int} (hv : VD d K u v0) (hT : TLd d K) (h32 : 0 ≤ d 98 32 ∧ d 98 32 ≤ 40) : ∀ (r i g : Nat) (v : qM), i + r = K → r < g → Fr (fun c _ => c = 139 ∨ c = 140 ∨ c = 148) v0 v → knR d i v → wp (fX13_know_48 fX13_know_117 g (Zi u) (Zi i) v) (fun _ v' => Fr (fun c _ => c = 139 ∨ c = 140 ∨ c = 148) v0 v' ∧ knR d K v') := by
  intro r
  induction r with
  | zero =>
    intro i g v hi hg hF h1
    obtain ⟨g, rfl⟩ : ∃ g', g = g' + 1 := ⟨g - 1, by omega⟩
    have : i = K := by omega
    subst this
    obtain ⟨k1, k2, k3, k4, k5, k6⟩ := hv.mono (v' := v) (fun c k hc => hF.1 c k (by unfold dE at hc; omega))
    have r134 := vI_r v 134 i
    refine wp_e (x := ()) (m := v) ?_ ⟨hF, h1⟩
    by_cases g1 : vI v 98 52 ≤ i
    · simp (disch := omega) only [fX13_know_48, fX13_know_117, qbI_s, qbL_s, qbV_s, qbR_s, qbR_n, qbN_s, qbN_n, qbIX_s, qbIX_n, qbVX_s, qbVX_n, cond_true, cond_false, cond_dec, jadd, jsub, jmul, jneg, li_0, li_1, li_2, li_3, li_4, li_5, li_6, li_7, li_8, li_9, li_10, li_14, li_15, li_16, li_19, li_20, li_24, li_30, li_31, li_32, li_39, li_40, li_48, li_57, li_59, li_60, li_63, li_65, li_80, li_81, li_90, li_97, li_99, li_100, li_122, li_126, li_127, li_150, li_160, li_200, li_225, li_255, li_400, li_799, li_800, li_999, li_2400, li_3239, li_3240, li_1048575, li_1431655765, li_858993459, li_252645135, eqb_j, ltb_j, leb_j, inb_j, ix_j, ix_n, nz_b, nz_0, nz_1, eqb_b, bnot, vI_ne, vI_eq, gIL, gLI, gIR, gRI, gLR, gRL, Int.reduceLT, Int.reduceLE, Int.reduceEq, Int.reduceAdd, Int.reduceSub, Int.reduceMul, Int.reduceNeg, Int.reduceToNat, Nat.reduceEqDiff, reduceIte, if_neg, if_pos, gI_ne, gIv 98]
    · simp (disch := omega) only [fX13_know_48, fX13_know_117, qbI_s, qbL_s, qbV_s, qbR_s, qbR_n, qbN_s, qbN_n, qbIX_s, qbIX_n, qbVX_s, qbVX_n, cond_true, cond_false, cond_dec, jadd, jsub, jmul, jneg, li_0, li_1, li_2, li_3, li_4, li_5, li_6, li_7, li_8, li_9, li_10, li_14, li_15, li_16, li_19, li_20, li_24, li_30, li_31, li_32, li_39, li_40, li_48, li_57, li_59, li_60, li_63, li_65, li_80, li_81, li_90, li_97, li_99, li_100, li_122, li_126, li_127, li_150, li_160, li_200, li_225, li_255, li_400, li_799, li_800, li_999, li_2400, li_3239, li_3240, li_1048575, li_1431655765, li_858993459, li_252645135, eqb_j, ltb_j, leb_j, inb_j, ix_j, ix_n, nz_b, nz_0, nz_1, eqb_b, bnot, vI_ne, vI_eq, gIL, gLI, gIR, gRI, gLR, gRL, Int.reduceLT, Int.reduceLE, Int.reduceEq, Int.reduceAdd, Int.reduceSub, Int.reduceMul, Int.reduceNeg, Int.reduceToNat, Nat.reduceEqDiff, reduceIte, if_neg, if_pos, gI_ne, gIv 98, gIv 134]
  | succ r ih =>
    intro i g v hi hg hF h1
    obtain ⟨g, rfl⟩ : ∃ g', g = g' + 1 := ⟨g - 1, by omega⟩
    obtain ⟨k1, k2, k3, k4, k5, k6⟩ := hv.mono (v' := v) (fun c k hc => hF.1 c k (by unfold dE at hc; omega))
    have e134 := k4 i (by omega) 134 (by omega) (by omega)
    have e135 := k4 i (by omega) 135 (by omega) (by omega)
    have e136 := k4 i (by omega) 136 (by omega) (by omega)
    have e137 := k4 i (by omega) 137 (by omega) (by omega)
    have hle := k5 i (by omega)
    have r134 := vI_r v 134 i
    have hTi := hT i (by omega)
    obtain ⟨o, ho⟩ : ∃ o : Nat, d 136 i = o := ⟨(d 136 i).toNat, by omega⟩
    obtain ⟨h2, h3⟩ := h1
    rcases (show d 135 i = 0 ∨ d 135 i = 1 ∨ d 135 i = 2 ∨ d 135 i = 3 by omega) with gk | gk | gk | gk
    · have hq : 0 ≤ d 136 i ∧ d 136 i < d 98 32 ∧ 0 ≤ d 137 i ∧ d 137 i ≤ 60 := by omega
      have n := ih (i + 1) g (sI v 139 o (Zi (d 137 i))) (by omega) (by omega) (hF.wI 139 _ _ (by omega)) ⟨fun a ha => by
        rw [inE_148, if_neg (fun z => by omega), inE_139, vI_eq (by omega), vI_ne (by omega)]
        refine ⟨?_, (h2 a ha).2⟩
        by_cases e : a = o
        · rw [if_pos e, if_pos ⟨gk, by omega⟩]
        · rw [if_neg e, if_neg (fun z => e (by omega))]; exact (h2 a ha).1, fun f hf => by
        rw [inE_140, if_neg (fun z => by omega), vI_ne (by omega)]
        exact h3 f hf⟩
      simp (disch := omega) only [fX13_know_48, fX13_know_115, qbI_s, qbL_s, qbV_s, qbR_s, qbR_n, qbN_s, qbN_n, qbIX_s, qbIX_n, qbVX_s, qbVX_n, cond_true, cond_false, cond_dec, jadd, jsub, jmul, jneg, li_0, li_1, li_2, li_3, li_4, li_5, li_6, li_7, li_8, li_9, li_10, li_14, li_15, li_16, li_19, li_20, li_24, li_30, li_31, li_32, li_39, li_40, li_48, li_57, li_59, li_60, li_63, li_65, li_80, li_81, li_90, li_97, li_99, li_100, li_122, li_126, li_127, li_150, li_160, li_200, li_225, li_255, li_400, li_799, li_800, li_999, li_2400, li_3239, li_3240, li_1048575, li_1431655765, li_858993459, li_252645135, eqb_j, ltb_j, leb_j, inb_j, ix_j, ix_n, nz_b, nz_0, nz_1, eqb_b, bnot, vI_ne, vI_eq, gIL, gLI, gIR, gRI, gLR, gRL, Int.reduceLT, Int.reduceLE, Int.reduceEq, Int.reduceAdd, Int.reduceSub, Int.reduceMul, Int.reduceNeg, Int.reduceToNat, Nat.reduceEqDiff, reduceIte, if_neg, if_pos, gI_ne, gIv 98, gIv 134, e134, gIv 135, e135, gk, gIv 136, e136, ho, gIv 137, e137]
      exact n
    · have hq : 0 ≤ d 136 i ∧ d 136 i < d 98 32 ∧ (d 137 i = 0 ∨ d 137 i = 1) := by omega
      have n := ih (i + 1) g (sI v 148 o (Zi (d 137 i))) (by omega) (by omega) (hF.wI 148 _ _ (by omega)) ⟨fun a ha => by
        rw [inE_139, inE_148, vI_ne (by omega), vI_eq (by omega), if_neg (fun z => by omega)]
        refine ⟨(h2 a ha).1, ?_⟩
        by_cases e : a = o
        · rw [if_pos e, if_pos ⟨gk, by omega⟩]
        · rw [if_neg e, if_neg (fun z => e (by omega))]; exact (h2 a ha).2, fun f hf => by
        rw [inE_140, if_neg (fun z => by omega), vI_ne (by omega)]
        exact h3 f hf⟩
      rcases hq.2.2 with g7 | g7
      · rw [g7] at n
        simp (disch := omega) only [fX13_know_48, fX13_know_115, fX13_know_96, qbI_s, qbL_s, qbV_s, qbR_s, qbR_n, qbN_s, qbN_n, qbIX_s, qbIX_n, qbVX_s, qbVX_n, cond_true, cond_false, cond_dec, jadd, jsub, jmul, jneg, li_0, li_1, li_2, li_3, li_4, li_5, li_6, li_7, li_8, li_9, li_10, li_14, li_15, li_16, li_19, li_20, li_24, li_30, li_31, li_32, li_39, li_40, li_48, li_57, li_59, li_60, li_63, li_65, li_80, li_81, li_90, li_97, li_99, li_100, li_122, li_126, li_127, li_150, li_160, li_200, li_225, li_255, li_400, li_799, li_800, li_999, li_2400, li_3239, li_3240, li_1048575, li_1431655765, li_858993459, li_252645135, eqb_j, ltb_j, leb_j, inb_j, ix_j, ix_n, nz_b, nz_0, nz_1, eqb_b, bnot, vI_ne, vI_eq, gIL, gLI, gIR, gRI, gLR, gRL, Int.reduceLT, Int.reduceLE, Int.reduceEq, Int.reduceAdd, Int.reduceSub, Int.reduceMul, Int.reduceNeg, Int.reduceToNat, Nat.reduceEqDiff, reduceIte, if_neg, if_pos, gI_ne, gIv 98, gIv 134, e134, gIv 135, e135, gk, gIv 136, e136, ho, gIv 137, e137, g7]
        exact n
      · rw [g7] at n
        simp (disch := omega) only [fX13_know_48, fX13_know_115, fX13_know_96, qbI_s, qbL_s, qbV_s, qbR_s, qbR_n, qbN_s, qbN_n, qbIX_s, qbIX_n, qbVX_s, qbVX_n, cond_true, cond_false, cond_dec, jadd, jsub, jmul, jneg, li_0, li_1, li_2, li_3, li_4, li_5, li_6, li_7, li_8, li_9, li_10, li_14, li_15, li_16, li_19, li_20, li_24, li_30, li_31, li_32, li_39, li_40, li_48, li_57, li_59, li_60, li_63, li_65, li_80, li_81, li_90, li_97, li_99, li_100, li_122, li_126, li_127, li_150, li_160, li_200, li_225, li_255, li_400, li_799, li_800, li_999, li_2400, li_3239, li_3240, li_1048575, li_1431655765, li_858993459, li_252645135, eqb_j, ltb_j, leb_j, inb_j, ix_j, ix_n, nz_b, nz_0, nz_1, eqb_b, bnot, vI_ne, vI_eq, gIL, gLI, gIR, gRI, gLR, gRL, Int.reduceLT, Int.reduceLE, Int.reduceEq, Int.reduceAdd, Int.reduceSub, Int.reduceMul, Int.reduceNeg, Int.reduceToNat, Nat.reduceEqDiff, reduceIte, if_neg, if_pos, gI_ne, gIv 98, gIv 134, e134, gIv 135, e135, gk, gIv 136, e136, ho, gIv 137, e137, g7]
        exact n
    · have hq : 0 ≤ d 136 i ∧ d 136 i ≤ 14 ∧ 0 ≤ d 137 i ∧ d 137 i ≤ 799 := by omega
      have n := ih (i + 1) g (sI v 140 o (Zi (d 137 i))) (by omega) (by omega) (hF.wI 140 _ _ (by omega)) ⟨fun a ha => by
        rw [inE_139, inE_148, vI_ne (by omega), vI_ne (by omega), if_neg (fun z => by omega), if_neg (fun z => by omega)]
        exact h2 a ha, fun f hf => by
        rw [inE_140, vI_eq (by omega)]
        by_cases e : f = o
        · rw [if_pos e, if_pos ⟨gk, by omega⟩]
        · rw [if_neg e, if_neg (fun z => e (by omega))]; exact h3 f hf⟩
      simp (disch := omega) only [fX13_know_48, fX13_know_115, qbI_s, qbL_s, qbV_s, qbR_s, qbR_n, qbN_s, qbN_n, qbIX_s, qbIX_n, qbVX_s, qbVX_n, cond_true, cond_false, cond_dec, jadd, jsub, jmul, jneg, li_0, li_1, li_2, li_3, li_4, li_5, li_6, li_7, li_8, li_9, li_10, li_14, li_15, li_16, li_19, li_20, li_24, li_30, li_31, li_32, li_39, li_40, li_48, li_57, li_59, li_60, li_63, li_65, li_80, li_81, li_90, li_97, li_99, li_100, li_122, li_126, li_127, li_150, li_160, li_200, li_225, li_255, li_400, li_799, li_800, li_999, li_2400, li_3239, li_3240, li_1048575, li_1431655765, li_858993459, li_252645135, eqb_j, ltb_j, leb_j, inb_j, ix_j, ix_n, nz_b, nz_0, nz_1, eqb_b, bnot, vI_ne, vI_eq, gIL, gLI, gIR, gRI, gLR, gRL, Int.reduceLT, Int.reduceLE, Int.reduceEq, Int.reduceAdd, Int.reduceSub, Int.reduceMul, Int.reduceNeg, Int.reduceToNat, Nat.reduceEqDiff, reduceIte, if_neg, if_pos, gI_ne, gIv 98, gIv 134, e134, gIv 135, e135, gk, gIv 136, e136, ho, gIv 137, e137]
      exact n
    · have n := ih (i + 1) g v (by omega) (by omega) hF ⟨fun a ha => by
        rw [inE_139, inE_148, if_neg (fun z => by omega), if_neg (fun z => by omega)]
        exact h2 a ha, fun f hf => by
        rw [inE_140, if_neg (fun z => by omega)]
        exact h3 f hf⟩
      simp (disch := omega) only [fX13_know_48, fX13_know_115, qbI_s, qbL_s, qbV_s, qbR_s, qbR_n, qbN_s, qbN_n, qbIX_s, qbIX_n, qbVX_s, qbVX_n, cond_true, cond_false, cond_dec, jadd, jsub, jmul, jneg, li_0, li_1, li_2, li_3, li_4, li_5, li_6, li_7, li_8, li_9, li_10, li_14, li_15, li_16, li_19, li_20, li_24, li_30, li_31, li_32, li_39, li_40, li_48, li_57, li_59, li_60, li_63, li_65, li_80, li_81, li_90, li_97, li_99, li_100, li_122, li_126, li_127, li_150, li_160, li_200, li_225, li_255, li_400, li_799, li_800, li_999, li_2400, li_3239, li_3240, li_1048575, li_1431655765, li_858993459, li_252645135, eqb_j, ltb_j, leb_j, inb_j, ix_j, ix_n, nz_b, nz_0, nz_1, eqb_b, bnot, vI_ne, vI_eq, gIL, gLI, gIR, gRI, gLR, gRL, Int.reduceLT, Int.reduceLE, Int.reduceEq, Int.reduceAdd, Int.reduceSub, Int.reduceMul, Int.reduceNeg, Int.reduceToNat, Nat.reduceEqDiff, reduceIte, if_neg, if_pos, gI_ne, gIv 98, gIv 134, e134, gIv 135, e135, gk]
      exact n
/-- before the minutes -/
theorem beforeM {m0 : qM} (hR : R0 m0) {K : Nat} {u : Int} {v : qM} (hv : VD (vI m0) K u v) (hT : TLd (vI m0) K) (k74 : Int32 → qM → Option (Unit × qM)) (Q : Unit → qM → Prop) (hk : ∀ v', Fr (fun c k => DynF c k ∨ c = 98 ∧ k = 70) v v' → MS (vI m0) (inE (vI m0) K) K v' → wp (k74 (Zi 0) v') Q) : wp (qbV (fX13_know (Zi u) v) (fun m1 => fX13_goThrough_5 (fX13_goThrough_28 (fX13_goThrough_45 (fX13_goThrough_62 k74 FU) FU) FU) FU (Zi 0) m1)) Q := by
  have hD := DOk.of (CAll.of hR)
  have hHa := hR.1.2.2.2.2
  have n1 := hD.2.2.2.2.1
  have n2 := hD.2.2.2.2.2.1
  have hu := hv.2.2.1
  obtain ⟨N, hN⟩ : ∃ N : Nat, vI m0 98 32 = N := ⟨(vI m0 98 32).toNat, by omega⟩
  obtain ⟨v1, hv1⟩ : ∃ v1 : qM, v1 = sI v 98 70 (Zi u) := ⟨_, rfl⟩
  have V1 : VD (vI m0) K u v1 := hv.mono fun c k hc => by rw [hv1, gI_sI, if_neg (by unfold dE at hc; omega)]
  have F1 : Fr (fun c k => DynF c k ∨ c = 98 ∧ k = 70) v v1 := by rw [hv1]; exact (Fr.rf v).wI 98 70 _ (Or.inr ⟨rfl, rfl⟩)
  have e70 : vI v1 98 70 = u := by rw [hv1, vI_eq (by omega), if_pos rfl]
  have know : wp (fX13_know (Zi u) v) (fun _ v' => Fr (fun c _ => c = 139 ∨ c = 140 ∨ c = 148) v1 v' ∧ knR (vI m0) K v') := by
    rw [fX13_know_d]
    simp only [fX13_know_0, ← hv1]
    refine kno5 V1.1 (fun t ht => (hHa.1 t ht).2) (fun t ht => ft_r9 hHa t ht) (fun a ha => (hD.2.2.2.2.2.2 a ha).2.1) u N ⟨by rw [V1.1 98 32 (by unfold dE; omega)]; exact hN, by omega⟩ _ _ N 0 FU v1 (by omega) (by rw [FU_d]; omega) (Fr.rf v1) (fun j hj => by omega) (fun v2 aF a1 => ?_)
    refine kno28 (d := vI m0) (fun c k hc => by rw [aF.v c k (by unfold dE at hc; omega)]; exact V1.1 c k hc) (fun f hf => ?_) u _ _ 15 0 FU v2 rfl (by rw [FU_d]; omega) (Fr.rf v2) (fun j hj => by omega) (fun v3 bF b1 => ?_)
    · have h1 := hD.1.1
      have h2 := (hD.2.2.1 f hf).1
      have h3 : vI m0 99 0 * vI m0 116 f ≤ 30 * 19 := Int.mul_le_mul h1.2 (by omega) h2.1 (by omega)
      have h4 : 0 ≤ vI m0 99 0 * vI m0 116 f := Int.mul_nonneg (by omega) h2.1
      omega
    · have F13 : Fr (fun c _ => c = 139 ∨ c = 140 ∨ c = 148) v1 v3 := (aF.wide fun c k h => by omega).tr (bF.wide fun c k h => by omega)
      exact kno48 V1 hT ⟨n1, n2⟩ K 0 FU v3 (by omega) (by rw [FU_d]; have := V1.2.1; omega) F13 ⟨fun a ha => by rw [bF.v 139 a (by omega), bF.v 148 a (by omega)]; exact a1 a (by omega), fun f hf => b1 f hf⟩
  obtain ⟨x4, v4, e4, F4, k4⟩ := know
  rw [e4, qbV_s]
  have V4 : VD (vI m0) K u v4 := V1.mono fun c k hc => F4.1 c k (by unfold dE at hc; omega)
  refine thr5 N ⟨by rw [V4.1 98 32 (by unfold dE; omega)]; exact hN, by omega⟩ _ _ N 0 FU v4 (by omega) (by rw [FU_d]; omega) (Fr.rf v4) (fun j hj => by omega) (fun v5 aF a1 => ?_)
  refine thr28 _ _ 10 0 FU v5 rfl (by rw [FU_d]; omega) (Fr.rf v5) (fun j hj => by omega) (fun v6 bF b1 => ?_)
  refine thr45 _ _ 15 0 FU v6 rfl (by rw [FU_d]; omega) (Fr.rf v6) (fun j hj => by omega) (fun v7 cF c1 => ?_)
  refine thr62 _ _ 4 0 FU v7 rfl (by rw [FU_d]; omega) (Fr.rf v7) (fun j hj => by omega) (fun v8 dF d1 => ?_)
  have F48 : Fr (fun c _ => 141 ≤ c ∧ c ≤ 147 ∨ c = 149) v4 v8 := (((aF.wide fun c k h => by omega).tr (bF.wide fun c k h => by omega)).tr (cF.wide fun c k h => by omega)).tr (dF.wide fun c k h => by omega)
  have V8 : VD (vI m0) K u v8 := V4.mono fun c k hc => F48.1 c k (by unfold dE at hc; omega)
  have z : ∀ c k, ¬ (c = 139 ∨ c = 140 ∨ c = 148) → ¬ (c = 141 ∨ c = 146) → inE (vI m0) K c k = 0 := fun c k h1 h2 => by
    rw [inE_o _ h1]
    unfold bsE
    rw [if_neg (by omega), if_neg (by omega), if_neg h2]
  have y : ∀ c k, (c = 141 ∨ c = 146) → inE (vI m0) K c k = -1 := fun c k h => by
    rw [inE_o _ (by omega)]
    unfold bsE
    rw [if_neg (by omega), if_neg (by omega), if_pos h]
  have e708 : vI v8 98 70 = u := by rw [F48.v 98 70 (by omega), F4.v 98 70 (by omega), e70]
  refine hk v8 ((F1.tr (F4.wide fun c k h => Or.inl (by unfold DynF; omega))).tr (F48.wide fun c k h => Or.inl (by unfold DynF; omega))) ⟨V8.1, fun c k hc => ?_, V8.2.1.1, V8.2.1.2, by rw [e708]; exact hu, V8.2.2.2.1, by rw [e708]; exact V8.2.2.2.2.1, by rw [e708]; exact V8.2.2.2.2.2⟩
  rcases hc with ⟨h1, h2⟩ | ⟨h1, h2⟩ | ⟨h1, h2⟩ | ⟨h1, h2⟩
  · rcases h1 with h1 | h1 | h1 | h1 | h1
    · rw [h1, F48.v 139 k (by omega)]; exact (k4.1 k h2).1
    · rw [h1, dF.v 141 k (by omega), cF.v 141 k (by omega), bF.v 141 k (by omega), (a1 k (by omega)).1, y 141 k (by omega)]
    · rw [h1, dF.v 142 k (by omega), cF.v 142 k (by omega), bF.v 142 k (by omega), (a1 k (by omega)).2.1, z 142 k (by omega) (by omega)]
    · rw [h1, F48.v 148 k (by omega)]; exact (k4.1 k h2).2
    · rw [h1, dF.v 149 k (by omega), cF.v 149 k (by omega), bF.v 149 k (by omega), (a1 k (by omega)).2.2, z 149 k (by omega) (by omega)]
  · rcases h1 with h1 | h1 | h1
    · rw [h1, F48.v 140 k (by omega)]; exact k4.2 k h2
    · rw [h1, dF.v 145 k (by omega), (c1 k h2).1, z 145 k (by omega) (by omega)]
    · rw [h1, dF.v 146 k (by omega), (c1 k h2).2, y 146 k (by omega)]
  · rcases h1 with h1 | h1
    · rw [h1, dF.v 143 k (by omega), cF.v 143 k (by omega), (b1 k h2).1, z 143 k (by omega) (by omega)]
    · rw [h1, dF.v 144 k (by omega), cF.v 144 k (by omega), (b1 k h2).2, z 144 k (by omega) (by omega)]
  · rw [h1, d1 k h2, z 147 k (by omega) (by omega)]
theorem thr109 {v0 : qM} {d s : Nat → Nat → Int} (hD : DOk d) (hS : SI d s) (h125 : ∀ a : Nat, (a : Int) < d 98 32 → vI v0 125 a = d 125 a ∧ vI v0 141 a = s 141 a) (h98 : vI v0 98 32 = d 98 32) : ∀ (r a g : Nat) (v : qM), a + r = (d 98 32).toNat → r < g → Fr (fun c _ => c = 149) v0 v → (∀ j : Nat, (j : Int) < d 98 32 → vI v 149 j = if j < a ∧ d 125 j ≠ -1 ∧ s 141 j = -1 then 1 else s 149 j) → wp (fX13_goThrough_109 g (Zi a) v) (fun _ v' => Fr (fun c _ => c = 149) v0 v' ∧ ∀ j : Nat, (j : Int) < d 98 32 → vI v' 149 j = if d 125 j ≠ -1 ∧ s 141 j = -1 then 1 else s 149 j) := by
  have n1 := hD.2.2.2.2.1
  have n2 := hD.2.2.2.2.2.1
  intro r
  induction r with
  | zero =>
    intro a g v ha hg hF h1
    obtain ⟨g, rfl⟩ : ∃ g', g = g' + 1 := ⟨g - 1, by omega⟩
    have e98 : vI v 98 32 = d 98 32 := by rw [hF.v 98 32 (by omega)]; exact h98
    refine wp_e (x := ()) (m := v) ?_ ⟨hF, fun j hj => ?_⟩
    · simp (disch := omega) only [fX13_goThrough_109, qbI_s, qbL_s, qbV_s, qbR_s, qbR_n, qbN_s, qbN_n, qbIX_s, qbIX_n, qbVX_s, qbVX_n, cond_true, cond_false, cond_dec, jadd, jsub, jmul, jneg, li_0, li_1, li_2, li_3, li_4, li_5, li_6, li_7, li_8, li_9, li_10, li_14, li_15, li_16, li_19, li_20, li_24, li_30, li_31, li_32, li_39, li_40, li_48, li_57, li_59, li_60, li_63, li_65, li_80, li_81, li_90, li_97, li_99, li_100, li_122, li_126, li_127, li_150, li_160, li_200, li_225, li_255, li_400, li_799, li_800, li_999, li_2400, li_3239, li_3240, li_1048575, li_1431655765, li_858993459, li_252645135, eqb_j, ltb_j, leb_j, inb_j, ix_j, ix_n, nz_b, nz_0, nz_1, eqb_b, bnot, vI_ne, vI_eq, gIL, gLI, gIR, gRI, gLR, gRL, Int.reduceLT, Int.reduceLE, Int.reduceEq, Int.reduceAdd, Int.reduceSub, Int.reduceMul, Int.reduceNeg, Int.reduceToNat, Nat.reduceEqDiff, reduceIte, if_neg, if_pos, gI_ne, gIv 98, e98]
    · rw [h1 j hj]
      by_cases e : d 125 j ≠ -1 ∧ s 141 j = -1
      · rw [if_pos e, if_pos ⟨by omega, e⟩]
      · rw [if_neg e, if_neg (fun z => e z.2)]
  | succ r ih =>
    intro a g v ha hg hF h1
    obtain ⟨g, rfl⟩ : ∃ g', g = g' + 1 := ⟨g - 1, by omega⟩
    have e98 : vI v 98 32 = d 98 32 := by rw [hF.v 98 32 (by omega)]; exact h98
    have ha' : (a : Int) < d 98 32 := by omega
    have e125 : vI v 125 a = d 125 a := by rw [hF.v 125 a (by omega)]; exact (h125 a ha').1
    have e141 : vI v 141 a = s 141 a := by rw [hF.v 141 a (by omega)]; exact (h125 a ha').2
    have k4 := (hD.2.2.2.2.2.2 a ha').2.2.2
    have q4 := (hS.2.2.2.2 a ha').2.1
    have same : ¬ (d 125 a ≠ -1 ∧ s 141 a = -1) → ∀ j : Nat, (j : Int) < d 98 32 → vI v 149 j = if j < a + 1 ∧ d 125 j ≠ -1 ∧ s 141 j = -1 then 1 else s 149 j := fun hn j hj => by
      rw [h1 j hj]
      by_cases e : j = a
      · rw [e, if_neg (fun z => hn z.2), if_neg (fun z => hn z.2)]
      · by_cases e2 : d 125 j ≠ -1 ∧ s 141 j = -1
        · by_cases e3 : j < a
          · rw [if_pos ⟨e3, e2⟩, if_pos ⟨by omega, e2⟩]
          · rw [if_neg (fun z => e3 z.1), if_neg (fun z => e3 (by omega))]
        · rw [if_neg (fun z => e2 z.2), if_neg (fun z => e2 z.2)]
    by_cases g1 : d 125 a = -1
    · have n := ih (a + 1) g v (by omega) (by omega) hF (same fun z => z.1 g1)
      simp (disch := omega) only [fX13_goThrough_109, fX13_goThrough_130, qbI_s, qbL_s, qbV_s, qbR_s, qbR_n, qbN_s, qbN_n, qbIX_s, qbIX_n, qbVX_s, qbVX_n, cond_true, cond_false, cond_dec, jadd, jsub, jmul, jneg, li_0, li_1, li_2, li_3, li_4, li_5, li_6, li_7, li_8, li_9, li_10, li_14, li_15, li_16, li_19, li_20, li_24, li_30, li_31, li_32, li_39, li_40, li_48, li_57, li_59, li_60, li_63, li_65, li_80, li_81, li_90, li_97, li_99, li_100, li_122, li_126, li_127, li_150, li_160, li_200, li_225, li_255, li_400, li_799, li_800, li_999, li_2400, li_3239, li_3240, li_1048575, li_1431655765, li_858993459, li_252645135, eqb_j, ltb_j, leb_j, inb_j, ix_j, ix_n, nz_b, nz_0, nz_1, eqb_b, bnot, vI_ne, vI_eq, gIL, gLI, gIR, gRI, gLR, gRL, Int.reduceLT, Int.reduceLE, Int.reduceEq, Int.reduceAdd, Int.reduceSub, Int.reduceMul, Int.reduceNeg, Int.reduceToNat, Nat.reduceEqDiff, reduceIte, if_neg, if_pos, gI_ne, gIv 98, e98, gIv 125, e125, show (-1 : Int32) = Zi (-1) from rfl]
      exact n
    · by_cases g2 : s 141 a = -1
      · have n := ih (a + 1) g (sI v 149 a (Zi 1)) (by omega) (by omega) (Fr.wI (P := fun c _ => c = 149) hF 149 _ _ rfl) (fun j hj => by
          rw [vI_eq (by omega)]
          by_cases e : j = a
          · rw [if_pos e, if_pos ⟨by omega, by rw [e]; exact g1, by rw [e]; exact g2⟩]
          · rw [if_neg e, h1 j hj]
            by_cases e2 : d 125 j ≠ -1 ∧ s 141 j = -1
            · by_cases e3 : j < a
              · rw [if_pos ⟨e3, e2⟩, if_pos ⟨by omega, e2⟩]
              · rw [if_neg (fun z => e3 z.1), if_neg (fun z => e3 (by omega))]
            · rw [if_neg (fun z => e2 z.2), if_neg (fun z => e2 z.2)])
        simp (disch := omega) only [fX13_goThrough_109, fX13_goThrough_130, qbI_s, qbL_s, qbV_s, qbR_s, qbR_n, qbN_s, qbN_n, qbIX_s, qbIX_n, qbVX_s, qbVX_n, cond_true, cond_false, cond_dec, jadd, jsub, jmul, jneg, li_0, li_1, li_2, li_3, li_4, li_5, li_6, li_7, li_8, li_9, li_10, li_14, li_15, li_16, li_19, li_20, li_24, li_30, li_31, li_32, li_39, li_40, li_48, li_57, li_59, li_60, li_63, li_65, li_80, li_81, li_90, li_97, li_99, li_100, li_122, li_126, li_127, li_150, li_160, li_200, li_225, li_255, li_400, li_799, li_800, li_999, li_2400, li_3239, li_3240, li_1048575, li_1431655765, li_858993459, li_252645135, eqb_j, ltb_j, leb_j, inb_j, ix_j, ix_n, nz_b, nz_0, nz_1, eqb_b, bnot, vI_ne, vI_eq, gIL, gLI, gIR, gRI, gLR, gRL, Int.reduceLT, Int.reduceLE, Int.reduceEq, Int.reduceAdd, Int.reduceSub, Int.reduceMul, Int.reduceNeg, Int.reduceToNat, Nat.reduceEqDiff, reduceIte, if_neg, if_pos, gI_ne, gIv 98, e98, gIv 125, e125, gIv 141, e141, show (-1 : Int32) = Zi (-1) from rfl]
        exact n
      · have n := ih (a + 1) g v (by omega) (by omega) hF (same fun z => g2 z.2)
        simp (disch := omega) only [fX13_goThrough_109, fX13_goThrough_130, qbI_s, qbL_s, qbV_s, qbR_s, qbR_n, qbN_s, qbN_n, qbIX_s, qbIX_n, qbVX_s, qbVX_n, cond_true, cond_false, cond_dec, jadd, jsub, jmul, jneg, li_0, li_1, li_2, li_3, li_4, li_5, li_6, li_7, li_8, li_9, li_10, li_14, li_15, li_16, li_19, li_20, li_24, li_30, li_31, li_32, li_39, li_40, li_48, li_57, li_59, li_60, li_63, li_65, li_80, li_81, li_90, li_97, li_99, li_100, li_122, li_126, li_127, li_150, li_160, li_200, li_225, li_255, li_400, li_799, li_800, li_999, li_2400, li_3239, li_3240, li_1048575, li_1431655765, li_858993459, li_252645135, eqb_j, ltb_j, leb_j, inb_j, ix_j, ix_n, nz_b, nz_0, nz_1, eqb_b, bnot, vI_ne, vI_eq, gIL, gLI, gIR, gRI, gLR, gRL, Int.reduceLT, Int.reduceLE, Int.reduceEq, Int.reduceAdd, Int.reduceSub, Int.reduceMul, Int.reduceNeg, Int.reduceToNat, Nat.reduceEqDiff, reduceIte, if_neg, if_pos, gI_ne, gIv 98, e98, gIv 125, e125, gIv 141, e141, show (-1 : Int32) = Zi (-1) from rfl]
        exact n
/-- what the reference comes to with so many tellings known -/
def RowOk (d : Nat → Nat → Int) (K : Nat) (S E : Nat → Int) : Prop := (∀ a : Nat, (a : Int) < d 98 32 → (-1 ≤ S a ∧ S a ≤ 799) ∧ (-1 ≤ E a ∧ E a ≤ 900) ∧ (S a = -1 → E a = -1) ∧ (S a ≠ -1 → S a ≤ E a) ∧ (d 125 a = -1 → S a = -1)) ∧ ∀ v u, VD d K u v → wp (fX13_goThrough (Zi u) v) (fun _ v' => Fr (fun c k => DynF c k ∨ c = 98 ∧ k = 70) v v' ∧ ∀ a : Nat, (a : Int) < d 98 32 → vI v' 141 a = S a ∧ vI v' 149 a = (if d 125 a ≠ -1 ∧ S a = -1 then 1 else 0) ∧ vI v' 142 a = if S a = -1 then 0 else E a - S a)
theorem evening {m0 : qM} (hR : R0 m0) (K : Nat) (hK8 : K ≤ 80) (hK : (K : Int) ≤ vI m0 98 52) : ∃ (S E : Nat → Int) (w' : qM), RowOk (vI m0) K S E ∧ Fr evF m0 w' ∧ (∀ a : Nat, (a : Int) < vI m0 98 32 → vI w' 81 (40 * K + a) = S a ∧ vI w' 82 (40 * K + a) = E a) ∧ (∀ j, ¬ (40 * K ≤ j ∧ j < 40 * K + 40) → vI w' 81 j = vI m0 81 j ∧ vI w' 82 j = vI m0 82 j) ∧ (∀ j, vI w' 83 j = if j = K then 1 else vI m0 83 j) ∧ (vI m0 83 K = 0 → fX1_makeReady (Zi K) m0 = some ((), w')) := by
  have hD := DOk.of (CAll.of hR)
  have hT := TLd.of hR K hK
  have n1 := hD.2.2.2.2.1
  have n2 := hD.2.2.2.2.2.1
  obtain ⟨x1, w1, e1, C1, f1⟩ := prepare_s hR K hK8 hK
  have S1 := SI.ini hR K hT
  obtain ⟨sF, w2, C2, S2, e2, hv⟩ := runB hR hK8 hK 800 0 (inE (vI m0) K) w1 rfl (by omega) C1 S1 (fun t ht => by
    have h4 := S1.2.2.2.1 t ht
    have z : ∀ c k, ¬ (c = 139 ∨ c = 140 ∨ c = 148) → ¬ (c = 141 ∨ c = 146) → inE (vI m0) K c k = 0 := fun c k h1 h2 => by
      rw [inE_o _ h1]
      unfold bsE
      rw [if_neg (by omega), if_neg (by omega), if_neg h2]
    refine ⟨by rw [f1 t ht]; omega, by rw [f1 t ht, z 143 t (by omega) (by omega)]; omega, by rw [f1 t ht, z 144 t (by omega) (by omega)]; omega, fun u' h1 h2 => ?_⟩
    rw [f1 t ht] at h2
    omega)
  have C2' := C2
  obtain ⟨c1, c2, c3, c4, c5, c6, c7, c8⟩ := C2'
  refine ⟨fun a => sF 141 a, fun a => if sF 141 a = -1 then -1 else sF 141 a + sF 142 a, sI w2 83 K (Zi 1), ⟨fun a ha => ?_, fun v u hvd => ?_⟩, c1.wI 83 K _ (by unfold evF; omega), fun a ha => ?_, fun j hj => ?_, fun j => ?_, fun h0 => ?_⟩
  · have q := S2.2.2.2.2 a ha
    show (-1 ≤ sF 141 a ∧ sF 141 a ≤ 799) ∧ (-1 ≤ (if sF 141 a = -1 then -1 else sF 141 a + sF 142 a) ∧ (if sF 141 a = -1 then -1 else sF 141 a + sF 142 a) ≤ 900) ∧ (sF 141 a = -1 → (if sF 141 a = -1 then -1 else sF 141 a + sF 142 a) = -1) ∧ (sF 141 a ≠ -1 → sF 141 a ≤ (if sF 141 a = -1 then -1 else sF 141 a + sF 142 a)) ∧ (vI m0 125 a = -1 → sF 141 a = -1)
    refine ⟨q.2.1, ?_, fun h => if_pos h, fun h => ?_, fun h => (q.2.2.2.2.2.2.1 h).1⟩
    · split <;> omega
    · rw [if_neg h]; omega
  · rw [fX13_goThrough_d]
    show wp (fX13_goThrough_0 (Zi u) v) _
    rw [fX13_goThrough_0]
    refine beforeM hR hvd hT _ _ (fun v1 F1 M1 => ?_)
    obtain ⟨v2, M2, F2, e9⟩ := hv v1 M1
    have r9 := e9 (fX13_goThrough_109 FU) FU (by rw [FU_d]; omega)
    rw [show Zi ((0 : Nat) : Int) = Zi 0 from rfl] at r9
    rw [r9]
    obtain ⟨x3, v3, e3, F3, q3⟩ := thr109 (v0 := v2) hD S2 (fun a ha => ⟨M2.1 125 a (by unfold dE; omega), M2.2.1 141 a (by unfold dyn; omega)⟩) (M2.1 98 32 (by unfold dE; omega)) (vI m0 98 32).toNat 0 FU v2 (by omega) (by rw [FU_d]; omega) (Fr.rf v2) (fun j hj => by rw [if_neg (fun z => by omega)]; exact M2.2.1 149 j (by unfold dyn; omega))
    refine ⟨x3, v3, e3, (F1.tr (F2.wide fun c k h => Or.inl h)).tr (F3.wide fun c k h => Or.inl (by unfold DynF; omega)), fun a ha => ?_⟩
    have q := S2.2.2.2.2 a ha
    show vI v3 141 a = sF 141 a ∧ vI v3 149 a = (if vI m0 125 a ≠ -1 ∧ sF 141 a = -1 then 1 else 0) ∧ vI v3 142 a = if sF 141 a = -1 then 0 else (if sF 141 a = -1 then -1 else sF 141 a + sF 142 a) - sF 141 a
    rw [F3.v 141 a (by omega), F3.v 142 a (by omega), q3 a ha, M2.2.1 141 a (by unfold dyn; omega), M2.2.1 142 a (by unfold dyn; omega)]
    refine ⟨rfl, ?_, ?_⟩
    · by_cases e : vI m0 125 a ≠ -1 ∧ sF 141 a = -1
      · rw [if_pos e, if_pos e]
      · rw [if_neg e, if_neg e]
        by_cases e1 : vI m0 125 a = -1
        · exact (q.2.2.2.2.2.2.1 e1).2
        · exact q.2.2.2.2.2.1 (fun z => e ⟨e1, z⟩)
    · by_cases e : sF 141 a = -1
      · rw [if_pos e]; exact q.2.2.2.2.2.2.2 e
      · rw [if_neg e, if_neg e]; omega
  · rw [vI_ne (by omega), vI_ne (by omega)]
    exact (c6 a ha).2.2
  · rw [vI_ne (by omega), vI_ne (by omega), vI_of (c7 j hj).1, vI_of (c7 j hj).2]
    exact ⟨rfl, rfl⟩
  · rw [vI_eq (by omega), vI_of (c8 j)]
  · have e2' := e2 FU (by rw [FU_d]; omega)
    rw [fX1_makeReady_d]
    simp (disch := omega) only [fX1_makeReady_0, qbI_s, qbL_s, qbV_s, qbR_s, qbR_n, qbN_s, qbN_n, qbIX_s, qbIX_n, qbVX_s, qbVX_n, cond_true, cond_false, cond_dec, jadd, jsub, jmul, jneg, li_0, li_1, li_2, li_3, li_4, li_5, li_6, li_7, li_8, li_9, li_10, li_14, li_15, li_16, li_19, li_20, li_24, li_30, li_31, li_32, li_39, li_40, li_48, li_57, li_59, li_60, li_63, li_65, li_80, li_81, li_90, li_97, li_99, li_100, li_122, li_126, li_127, li_150, li_160, li_200, li_225, li_255, li_400, li_799, li_800, li_999, li_2400, li_3239, li_3240, li_1048575, li_1431655765, li_858993459, li_252645135, eqb_j, ltb_j, leb_j, inb_j, ix_j, ix_n, nz_b, nz_0, nz_1, eqb_b, bnot, vI_ne, vI_eq, gIL, gLI, gIR, gRI, gLR, gRL, Int.reduceLT, Int.reduceLE, Int.reduceEq, Int.reduceAdd, Int.reduceSub, Int.reduceMul, Int.reduceNeg, Int.reduceToNat, Nat.reduceEqDiff, reduceIte, if_neg, if_pos, gI_ne, within_s, bI_dec, gIv 83, h0, e1]
    exact e2'
