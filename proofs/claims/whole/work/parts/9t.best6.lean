/-! the reference's way through the slots of a few asks -/
theorem vM_up (d : Dt) (a : Nat) (ha : (a : Int) < d 98 32) (hu : d 125 a = -1) (s : Nat) : (vM (upS d a s) : Int) = vM d + muI d a := by
  obtain ⟨c1, c2, c3⟩ := up_cnt d a s ha hu
  unfold vM muI
  rw [upS_ne d a s (c := 98) (by omega)]
  have e : (fun k => isLd (upS d a s) k && decide (upS d a s 126 k = 1)) = fun k => isLd (upS d a s) k && decide (d 126 k = 1) := funext fun k => by rw [upS_ne _ _ _ (by omega)]
  rw [e]
  exact c2
def muS (d0 : Dt) (p : Nat → Nat) : Nat → Nat → Int
  | 0, _ => 0
  | r + 1, i => muI d0 (p i) + muS d0 p r (i + 1)
theorem muS_r (d0 : Dt) (p : Nat → Nat) : ∀ r i, 0 ≤ muS d0 p r i ∧ muS d0 p r i ≤ r
  | 0, i => by rw [muS]; omega
  | r + 1, i => by
    have := muS_r d0 p r (i + 1)
    have := muI_r d0 (p i)
    rw [muS]
    omega
theorem LeB_cnt {d0 : Dt} {p : Nat → Nat} {al : Nat → Bool} {N : Nat} (hP : Pk d0 p N) (M1 A1 W : Int) (hW : ∀ d', DOk d' → (vM d' : Int) ≤ M1 → (vA d' : Int) ≤ A1 → wD d' ≤ W) : ∀ (r i : Nat) (d : Dt), i + r = N → Reach d0 p al i d → (vM d : Int) + muS d0 p r i ≤ M1 → (vA d : Int) + r ≤ A1 → LeB p al r i d W := by
  intro r
  induction r with
  | zero =>
    intro i d hi h h1 h2
    rw [LeB]
    rw [muS] at h1
    exact hW d (h.f hP (by omega)).1 (by omega) (by omega)
  | succ r ih =>
    intro i d hi h h1 h2
    have un := h.un hP (show i < N by omega)
    have mr := muI_r d0 (p i)
    have me : muI d (p i) = muI d0 (p i) := by unfold muI; rw [(h.f hP (by omega)).2.1 126 (p i) (by omega)]
    rw [muS] at h1
    rw [LeB]
    refine ⟨ih (i + 1) d (by omega) h.nx (by omega) (by omega), fun s g1 g2 g3 => ih (i + 1) _ (by omega) (h.up g1 g2 g3) ?_ ?_⟩
    · rw [vM_up d (p i) un.2 un.1 s]
      omega
    · rw [vA_up d (p i) un.2 un.1 s]
      omega
def MFw (N : Nat) (p : Nat → Nat) (d0 : Dt) (m0 : qM) (d : Dt) (b : Bs) (m : qM) : Prop := (∀ c k, dP c k → vI m c k = d c k) ∧ vI m 98 46 = (if b.1 = -1 then 0 else 1) ∧ (b.1 ≠ -1 → (∀ k, k < 4 → vI m 127 k = vV b.2 k) ∧ vI m 98 44 = (vM b.2 : Int) - vM d0 ∧ vI m 98 45 = (vA b.2 : Int) - vA d0 ∧ ∀ j, j < N → vI m 130 j = b.2 125 (p j)) ∧ Fr (fun c k => c = 125 ∨ c = 127 ∨ c = 128 ∨ c = 130 ∨ c = 98 ∧ 44 ≤ k ∧ k ≤ 46) m0 m
theorem few_s {d0 : Dt} {p : Nat → Nat} {al : Nat → Bool} {N : Nat} (hP : Pk d0 p N) (m0 : qM) (hCl : CClash m0 d0) (h43 : vI m0 98 43 = N) (h129 : ∀ j, j < N → vI m0 129 j = p j) (fr : Nat) (hfr : fr ≤ 20) (hal : ∀ s, al s = decide (fr ≤ s)) : ∀ (r i n : Nat) (m : qM) (d : Dt) (b : Bs), i + r = N → r < n → Reach d0 p al i d → bOK d0 p al N b → MFw N p d0 m0 d b m → wp (GX13_layFew n [.ref 98, .int (Zi i), .int (Zi fr), .int (Zi ((vM d : Int) - vM d0)), .int (Zi ((vA d : Int) - vA d0))] m) (fun _ m' => MFw N p d0 m0 d (enB p al r i d b) m') := by
  have n4 := hP.1
  have hD0 := hP.2.1
  have h40 := hP.2.1.2.2.2.2.2.1
  have v0 := val_r d0 hD0
  have qb1 : qb (Zi 1) = true := by rw [qb_d]; rfl
  -- the musts that are yet to come
  have mus : ∀ (G : qG Unit) (k49 : Int32 → Int32 → Int32 → Int32 → qM → Option (Unit × qM)) (k48 : qM → Option (Unit × qM)) (x1 x2 x3 x4 : Int32) (m : qM) (d : Dt) (b : Bs) (i : Nat), i ≤ N → Reach d0 p al i d → MFw N p d0 m0 d b m → ∀ (r j g : Nat) (c : Int), j + r = N → fX13_layFew_4 G k49 k48 (g + 1 + r) x1 x2 x3 x4 (Zi c) (Zi j) m = fX13_layFew_4 G k49 k48 (g + 1) x1 x2 x3 x4 (Zi (c + muS d0 p r j)) (Zi N) m := by
    intro G k49 k48 x1 x2 x3 x4 m d b i hi hR hM r
    induction r with
    | zero =>
      intro j g c hj
      rw [muS, Int.add_zero, show j = N by omega, Nat.add_zero]
    | succ r ih =>
      intro j g c hj
      have nx := ih (j + 1) g (c + muI d0 (p j)) (by omega)
      have q43 : vI m 98 43 = N := (hM.2.2.2.v 98 43 (by omega)).trans h43
      have q129 : vI m 129 j = p j := (hM.2.2.2.v 129 j (by omega)).trans (h129 j (by omega))
      have q126 : vI m 126 (p j) = d0 126 (p j) := by rw [hM.1 126 (p j) (by unfold dP; omega), (hR.f hP hi).2.1 126 (p j) (by omega)]
      have hpl := (hP.2.2.1 j (by omega)).1
      have hmu := (hD0.2.2.2.2.2.2 (p j) hpl).2.2.1
      rw [muS, ← Int.add_assoc, ← nx, show g + 1 + (r + 1) = (g + 1 + r) + 1 by omega]
      rcases hmu with h | h
      · rw [show muI d0 (p j) = 0 by unfold muI; rw [if_neg (by omega)]]
        conv => lhs; simp (disch := omega) only [fX13_layFew_4, fX13_layFew_20, qbI_s, qbL_s, qbV_s, qbR_s, qbR_n, qbN_s, qbN_n, qbIX_s, qbIX_n, qbVX_s, qbVX_n, cond_true, cond_false, cond_dec, jadd, jsub, jmul, jneg, li_0, li_1, li_2, li_3, li_4, li_5, li_6, li_7, li_8, li_9, li_10, li_14, li_15, li_16, li_19, li_20, li_24, li_30, li_31, li_32, li_39, li_40, li_48, li_57, li_59, li_60, li_63, li_65, li_80, li_81, li_90, li_97, li_99, li_100, li_122, li_126, li_127, li_150, li_160, li_200, li_225, li_255, li_400, li_799, li_800, li_999, li_2400, li_3239, li_3240, li_1048575, li_1431655765, li_858993459, li_252645135, eqb_j, ltb_j, leb_j, inb_j, ix_j, ix_n, nz_b, nz_0, nz_1, eqb_b, bnot, vI_ne, vI_eq, gIL, gLI, gIR, gRI, gLR, gRL, Int.reduceLT, Int.reduceLE, Int.reduceEq, Int.reduceAdd, Int.reduceSub, Int.reduceMul, Int.reduceNeg, Int.reduceToNat, Nat.reduceEqDiff, reduceIte, if_neg, if_pos, gI_ne, gIv 98, q43, gIv 129, q129, gIv 126, q126, h]
        rfl
      · rw [show muI d0 (p j) = 1 by unfold muI; rw [if_pos h]]
        conv => lhs; simp (disch := omega) only [fX13_layFew_4, fX13_layFew_20, qbI_s, qbL_s, qbV_s, qbR_s, qbR_n, qbN_s, qbN_n, qbIX_s, qbIX_n, qbVX_s, qbVX_n, cond_true, cond_false, cond_dec, jadd, jsub, jmul, jneg, li_0, li_1, li_2, li_3, li_4, li_5, li_6, li_7, li_8, li_9, li_10, li_14, li_15, li_16, li_19, li_20, li_24, li_30, li_31, li_32, li_39, li_40, li_48, li_57, li_59, li_60, li_63, li_65, li_80, li_81, li_90, li_97, li_99, li_100, li_122, li_126, li_127, li_150, li_160, li_200, li_225, li_255, li_400, li_799, li_800, li_999, li_2400, li_3239, li_3240, li_1048575, li_1431655765, li_858993459, li_252645135, eqb_j, ltb_j, leb_j, inb_j, ix_j, ix_n, nz_b, nz_0, nz_1, eqb_b, bnot, vI_ne, vI_eq, gIL, gLI, gIR, gRI, gLR, gRL, Int.reduceLT, Int.reduceLE, Int.reduceEq, Int.reduceAdd, Int.reduceSub, Int.reduceMul, Int.reduceNeg, Int.reduceToNat, Nat.reduceEqDiff, reduceIte, if_neg, if_pos, gI_ne, gIv 98, q43, gIv 129, q129, gIv 126, q126, h]
        rfl
  -- the best is kept
  have keep : ∀ (G : qG Unit) (m : qM) (d : Dt) (b : Bs), Reach d0 p al N d → MFw N p d0 m0 d b m → (∀ k, k < 4 → vI m 128 k = vV d k) → wp (fX13_layFew_62 G (Zi ((vM d : Int) - vM d0)) (Zi ((vA d : Int) - vA d0)) m) (fun _ m' => MFw N p d0 m0 d (wD d, d) m') := by
    intro G m d b hR hM hv
    have hD := (hR.f hP (Nat.le_refl _)).1
    have wr := wD_r d hD
    have vr := val_r d hD
    have F1 := hM.2.2.2.wI 98 46 (Zi 1) (by omega)
    obtain ⟨x2, m2, g2, k2, f2⟩ := keepVal_s (sI m 98 46 (Zi 1))
    have F2 := F1.tr (f2.wide (fun c k hc => by omega))
    have F3 := (F2.wI 98 44 (Zi ((vM d : Int) - vM d0)) (by omega)).wI 98 45 (Zi ((vA d : Int) - vA d0)) (by omega)
    have key : ∀ (r j g : Nat) (w : qM), j + r = N → r < g → Fr (fun c _ => c = 130) (sI (sI m2 98 44 (Zi ((vM d : Int) - vM d0))) 98 45 (Zi ((vA d : Int) - vA d0))) w → (∀ k, k < j → vI w 130 k = d 125 (p k)) → wp (fX13_layFew_75 G g (Zi j) w) (fun _ m' => Fr (fun c _ => c = 130) (sI (sI m2 98 44 (Zi ((vM d : Int) - vM d0))) 98 45 (Zi ((vA d : Int) - vA d0))) m' ∧ ∀ k, k < N → vI m' 130 k = d 125 (p k)) := by
      intro r
      induction r with
      | zero =>
        intro j g w hj hg hF h
        obtain ⟨g, rfl⟩ : ∃ g', g = g' + 1 := ⟨g - 1, by omega⟩
        have q43 : vI w 98 43 = N := by rw [hF.v 98 43 (by omega), F3.v 98 43 (by omega)]; exact h43
        refine wp_e (x := ()) (m := w) ?_ ⟨hF, fun k hk => h k (by omega)⟩
        simp (disch := omega) only [fX13_layFew_75, qbI_s, qbL_s, qbV_s, qbR_s, qbR_n, qbN_s, qbN_n, qbIX_s, qbIX_n, qbVX_s, qbVX_n, cond_true, cond_false, cond_dec, jadd, jsub, jmul, jneg, li_0, li_1, li_2, li_3, li_4, li_5, li_6, li_7, li_8, li_9, li_10, li_14, li_15, li_16, li_19, li_20, li_24, li_30, li_31, li_32, li_39, li_40, li_48, li_57, li_59, li_60, li_63, li_65, li_80, li_81, li_90, li_97, li_99, li_100, li_122, li_126, li_127, li_150, li_160, li_200, li_225, li_255, li_400, li_799, li_800, li_999, li_2400, li_3239, li_3240, li_1048575, li_1431655765, li_858993459, li_252645135, eqb_j, ltb_j, leb_j, inb_j, ix_j, ix_n, nz_b, nz_0, nz_1, eqb_b, bnot, vI_ne, vI_eq, gIL, gLI, gIR, gRI, gLR, gRL, Int.reduceLT, Int.reduceLE, Int.reduceEq, Int.reduceAdd, Int.reduceSub, Int.reduceMul, Int.reduceNeg, Int.reduceToNat, Nat.reduceEqDiff, reduceIte, if_neg, if_pos, gI_ne, gIv 98, q43]
      | succ r ih =>
        intro j g w hj hg hF h
        obtain ⟨g, rfl⟩ : ∃ g', g = g' + 1 := ⟨g - 1, by omega⟩
        have q43 : vI w 98 43 = N := by rw [hF.v 98 43 (by omega), F3.v 98 43 (by omega)]; exact h43
        have q129 : vI w 129 j = p j := by rw [hF.v 129 j (by omega), F3.v 129 j (by omega)]; exact h129 j (by omega)
        have q125 : vI w 125 (p j) = d 125 (p j) := by
          rw [hF.v 125 (p j) (by omega), vI_ne (by omega), vI_ne (by omega), f2.v 125 (p j) (by omega), vI_ne (by omega)]
          exact hM.1 125 (p j) (by unfold dP; omega)
        have hpl := (hP.2.2.1 j (by omega)).1
        have sr := (hD.2.2.2.2.2.2 (p j) (by rw [(hR.f hP (Nat.le_refl _)).2.1 98 32 (by omega)]; exact hpl)).2.2.2
        have nx := ih (j + 1) g (sI w 130 j (Zi (d 125 (p j)))) (by omega) (by omega) (hF.wI 130 j _ rfl) (fun k hk => by
          by_cases e : k = j
          · rw [e]
            simp (disch := omega) only [qbI_s, qbL_s, qbV_s, qbR_s, qbR_n, qbN_s, qbN_n, qbIX_s, qbIX_n, qbVX_s, qbVX_n, cond_true, cond_false, cond_dec, jadd, jsub, jmul, jneg, li_0, li_1, li_2, li_3, li_4, li_5, li_6, li_7, li_8, li_9, li_10, li_14, li_15, li_16, li_19, li_20, li_24, li_30, li_31, li_32, li_39, li_40, li_48, li_57, li_59, li_60, li_63, li_65, li_80, li_81, li_90, li_97, li_99, li_100, li_122, li_126, li_127, li_150, li_160, li_200, li_225, li_255, li_400, li_799, li_800, li_999, li_2400, li_3239, li_3240, li_1048575, li_1431655765, li_858993459, li_252645135, eqb_j, ltb_j, leb_j, inb_j, ix_j, ix_n, nz_b, nz_0, nz_1, eqb_b, bnot, vI_ne, vI_eq, gIL, gLI, gIR, gRI, gLR, gRL, Int.reduceLT, Int.reduceLE, Int.reduceEq, Int.reduceAdd, Int.reduceSub, Int.reduceMul, Int.reduceNeg, Int.reduceToNat, Nat.reduceEqDiff, reduceIte, if_neg, if_pos, gI_ne]
          · rw [vI_of (show gI (sI w 130 j (Zi (d 125 (p j)))) 130 k = gI w 130 k by rw [gI_eq, if_neg e])]
            exact h k (by omega))
        simp (disch := omega) only [fX13_layFew_75, qbI_s, qbL_s, qbV_s, qbR_s, qbR_n, qbN_s, qbN_n, qbIX_s, qbIX_n, qbVX_s, qbVX_n, cond_true, cond_false, cond_dec, jadd, jsub, jmul, jneg, li_0, li_1, li_2, li_3, li_4, li_5, li_6, li_7, li_8, li_9, li_10, li_14, li_15, li_16, li_19, li_20, li_24, li_30, li_31, li_32, li_39, li_40, li_48, li_57, li_59, li_60, li_63, li_65, li_80, li_81, li_90, li_97, li_99, li_100, li_122, li_126, li_127, li_150, li_160, li_200, li_225, li_255, li_400, li_799, li_800, li_999, li_2400, li_3239, li_3240, li_1048575, li_1431655765, li_858993459, li_252645135, eqb_j, ltb_j, leb_j, inb_j, ix_j, ix_n, nz_b, nz_0, nz_1, eqb_b, bnot, vI_ne, vI_eq, gIL, gLI, gIR, gRI, gLR, gRL, Int.reduceLT, Int.reduceLE, Int.reduceEq, Int.reduceAdd, Int.reduceSub, Int.reduceMul, Int.reduceNeg, Int.reduceToNat, Nat.reduceEqDiff, reduceIte, if_neg, if_pos, gI_ne, gIv 98, q43, gIv 129, q129, gIv 125, q125]
        exact nx
    obtain ⟨x4, m4, g4, f4, k4⟩ := key N 0 FU _ (by omega) (by rw [FU_d]; omega) (Fr.rf _) (fun k hk => by omega)
    refine wp_e (x := ()) (m := m4) ?_ ⟨fun c k hc => ?_, ?_, fun _ => ⟨fun k hk => ?_, ?_, ?_, k4⟩, F3.tr (f4.wide (fun c k hc => by omega))⟩
    · have g4' : fX13_layFew_75 G FU (Zi 0) (sI (sI m2 98 44 (Zi ((vM d : Int) - vM d0))) 98 45 (Zi ((vA d : Int) - vA d0))) = some (x4, m4) := g4
      simp (disch := omega) only [fX13_layFew_62, qbI_s, qbL_s, qbV_s, qbR_s, qbR_n, qbN_s, qbN_n, qbIX_s, qbIX_n, qbVX_s, qbVX_n, cond_true, cond_false, cond_dec, jadd, jsub, jmul, jneg, li_0, li_1, li_2, li_3, li_4, li_5, li_6, li_7, li_8, li_9, li_10, li_14, li_15, li_16, li_19, li_20, li_24, li_30, li_31, li_32, li_39, li_40, li_48, li_57, li_59, li_60, li_63, li_65, li_80, li_81, li_90, li_97, li_99, li_100, li_122, li_126, li_127, li_150, li_160, li_200, li_225, li_255, li_400, li_799, li_800, li_999, li_2400, li_3239, li_3240, li_1048575, li_1431655765, li_858993459, li_252645135, eqb_j, ltb_j, leb_j, inb_j, ix_j, ix_n, nz_b, nz_0, nz_1, eqb_b, bnot, vI_ne, vI_eq, gIL, gLI, gIR, gRI, gLR, gRL, Int.reduceLT, Int.reduceLE, Int.reduceEq, Int.reduceAdd, Int.reduceSub, Int.reduceMul, Int.reduceNeg, Int.reduceToNat, Nat.reduceEqDiff, reduceIte, if_neg, if_pos, gI_ne, qb1, g2, g4']
    · have hc' : c = 98 ∧ k = 32 ∨ c = 99 ∨ 112 ≤ c ∧ c ≤ 126 := hc
      rw [f4.v c k (by omega)]
      rw [← hM.1 c k hc]
      refine vI_of ?_
      rw [gI_sI, if_neg (by omega), gI_sI, if_neg (by omega), f2.1 c k (by omega), gI_sI, if_neg (by omega)]
    · rw [f4.v 98 46 (by omega), if_neg (by omega)]
      rw [vI_of (show gI (sI (sI m2 98 44 (Zi ((vM d : Int) - vM d0))) 98 45 (Zi ((vA d : Int) - vA d0))) 98 46 = gI m2 98 46 by rw [gI_eq, if_neg (by omega), gI_eq, if_neg (by omega)]), f2.v 98 46 (by omega)]
      simp (disch := omega) only [qbI_s, qbL_s, qbV_s, qbR_s, qbR_n, qbN_s, qbN_n, qbIX_s, qbIX_n, qbVX_s, qbVX_n, cond_true, cond_false, cond_dec, jadd, jsub, jmul, jneg, li_0, li_1, li_2, li_3, li_4, li_5, li_6, li_7, li_8, li_9, li_10, li_14, li_15, li_16, li_19, li_20, li_24, li_30, li_31, li_32, li_39, li_40, li_48, li_57, li_59, li_60, li_63, li_65, li_80, li_81, li_90, li_97, li_99, li_100, li_122, li_126, li_127, li_150, li_160, li_200, li_225, li_255, li_400, li_799, li_800, li_999, li_2400, li_3239, li_3240, li_1048575, li_1431655765, li_858993459, li_252645135, eqb_j, ltb_j, leb_j, inb_j, ix_j, ix_n, nz_b, nz_0, nz_1, eqb_b, bnot, vI_ne, vI_eq, gIL, gLI, gIR, gRI, gLR, gRL, Int.reduceLT, Int.reduceLE, Int.reduceEq, Int.reduceAdd, Int.reduceSub, Int.reduceMul, Int.reduceNeg, Int.reduceToNat, Nat.reduceEqDiff, reduceIte, if_neg, if_pos, gI_ne]
    · rw [f4.v 127 k (by omega), vI_ne (by omega), vI_ne (by omega), k2 k hk, vI_ne (by omega)]
      exact hv k hk
    · rw [f4.v 98 44 (by omega)]
      simp (disch := omega) only [qbI_s, qbL_s, qbV_s, qbR_s, qbR_n, qbN_s, qbN_n, qbIX_s, qbIX_n, qbVX_s, qbVX_n, cond_true, cond_false, cond_dec, jadd, jsub, jmul, jneg, li_0, li_1, li_2, li_3, li_4, li_5, li_6, li_7, li_8, li_9, li_10, li_14, li_15, li_16, li_19, li_20, li_24, li_30, li_31, li_32, li_39, li_40, li_48, li_57, li_59, li_60, li_63, li_65, li_80, li_81, li_90, li_97, li_99, li_100, li_122, li_126, li_127, li_150, li_160, li_200, li_225, li_255, li_400, li_799, li_800, li_999, li_2400, li_3239, li_3240, li_1048575, li_1431655765, li_858993459, li_252645135, eqb_j, ltb_j, leb_j, inb_j, ix_j, ix_n, nz_b, nz_0, nz_1, eqb_b, bnot, vI_ne, vI_eq, gIL, gLI, gIR, gRI, gLR, gRL, Int.reduceLT, Int.reduceLE, Int.reduceEq, Int.reduceAdd, Int.reduceSub, Int.reduceMul, Int.reduceNeg, Int.reduceToNat, Nat.reduceEqDiff, reduceIte, if_neg, if_pos, gI_ne]
    · rw [f4.v 98 45 (by omega)]
      simp (disch := omega) only [qbI_s, qbL_s, qbV_s, qbR_s, qbR_n, qbN_s, qbN_n, qbIX_s, qbIX_n, qbVX_s, qbVX_n, cond_true, cond_false, cond_dec, jadd, jsub, jmul, jneg, li_0, li_1, li_2, li_3, li_4, li_5, li_6, li_7, li_8, li_9, li_10, li_14, li_15, li_16, li_19, li_20, li_24, li_30, li_31, li_32, li_39, li_40, li_48, li_57, li_59, li_60, li_63, li_65, li_80, li_81, li_90, li_97, li_99, li_100, li_122, li_126, li_127, li_150, li_160, li_200, li_225, li_255, li_400, li_799, li_800, li_999, li_2400, li_3239, li_3240, li_1048575, li_1431655765, li_858993459, li_252645135, eqb_j, ltb_j, leb_j, inb_j, ix_j, ix_n, nz_b, nz_0, nz_1, eqb_b, bnot, vI_ne, vI_eq, gIL, gLI, gIR, gRI, gLR, gRL, Int.reduceLT, Int.reduceLE, Int.reduceEq, Int.reduceAdd, Int.reduceSub, Int.reduceMul, Int.reduceNeg, Int.reduceToNat, Nat.reduceEqDiff, reduceIte, if_neg, if_pos, gI_ne]
  intro r
  induction r with
  | zero =>
    intro i n m d b hi hn hR hb hM
    obtain ⟨n, rfl⟩ : ∃ n', n = n' + 1 := ⟨n - 1, by omega⟩
    have hi' : i = N := by omega
    subst hi'
    have fd := hR.f hP (Nat.le_refl _)
    have hD := fd.1
    have vr := val_r d hD
    have wr := wD_r d hD
    have br := hb.r hP
    have q43 : vI m 98 43 = i := (hM.2.2.2.v 98 43 (by omega)).trans h43
    have clD := Reach.cl hP hCl i d (Nat.le_refl _) hR
    show wp (fX13_layFew_0 (GX13_layFew n) (Zi i) (Zi fr) (Zi ((vM d : Int) - vM d0)) (Zi ((vA d : Int) - vA d0)) m) _
    obtain ⟨g, hg⟩ := FU_s 0 (by decide)
    rw [enB, leafB]
    -- at the end of the way
    have fin : wp (fX13_layFew_49 (GX13_layFew n) (Zi i) (Zi fr) (Zi ((vM d : Int) - vM d0)) (Zi ((vA d : Int) - vA d0)) m) (fun _ m' => MFw i p d0 m0 d (if b.1 < wD d then (wD d, d) else b) m') := by
      obtain ⟨x1, m1, g1, k1, f1⟩ := valNow_s m d hD clD hM.1
      have q1 : ∀ c k, ¬ c = 128 → vI m1 c k = vI m c k := fun c k hc => f1.v c k hc
      have M1 : MFw i p d0 m0 d b m1 := ⟨fun c k hc => by rw [q1 c k (by unfold dP at hc; omega)]; exact hM.1 c k hc, by rw [q1 98 46 (by omega)]; exact hM.2.1, fun h => by
        obtain ⟨u1, u2, u3, u4⟩ := hM.2.2.1 h
        exact ⟨fun k hk => by rw [q1 127 k (by omega)]; exact u1 k hk, by rw [q1 98 44 (by omega)]; exact u2, by rw [q1 98 45 (by omega)]; exact u3, fun j hj => by rw [q1 130 j (by omega)]; exact u4 j hj⟩, hM.2.2.2.tr (f1.wide (fun c k hc => by omega))⟩
      have kp := keep (GX13_layFew n) m1 d b hR M1 k1
      have q46 := M1.2.1
      by_cases h : b.1 = -1
      · rw [if_pos h] at q46
        rw [if_pos (by omega)]
        simp (disch := omega) only [fX13_layFew_49, qbI_s, qbL_s, qbV_s, qbR_s, qbR_n, qbN_s, qbN_n, qbIX_s, qbIX_n, qbVX_s, qbVX_n, cond_true, cond_false, cond_dec, jadd, jsub, jmul, jneg, li_0, li_1, li_2, li_3, li_4, li_5, li_6, li_7, li_8, li_9, li_10, li_14, li_15, li_16, li_19, li_20, li_24, li_30, li_31, li_32, li_39, li_40, li_48, li_57, li_59, li_60, li_63, li_65, li_80, li_81, li_90, li_97, li_99, li_100, li_122, li_126, li_127, li_150, li_160, li_200, li_225, li_255, li_400, li_799, li_800, li_999, li_2400, li_3239, li_3240, li_1048575, li_1431655765, li_858993459, li_252645135, eqb_j, ltb_j, leb_j, inb_j, ix_j, ix_n, nz_b, nz_0, nz_1, eqb_b, bnot, vI_ne, vI_eq, gIL, gLI, gIR, gRI, gLR, gRL, Int.reduceLT, Int.reduceLE, Int.reduceEq, Int.reduceAdd, Int.reduceSub, Int.reduceMul, Int.reduceNeg, Int.reduceToNat, Nat.reduceEqDiff, reduceIte, if_neg, if_pos, gI_ne, gIv 98, q43, g1, q46]
        exact kp
      · rw [if_neg h] at q46
        obtain ⟨hb1, hb2⟩ : b.1 = wD b.2 ∧ Reach d0 p al i b.2 := hb.resolve_left h
        have im := isMore_s m1 d b.2 hD (hb2.f hP (Nat.le_refl _)).1 k1 (M1.2.2.1 h).1
        rw [← hb1] at im
        by_cases c : b.1 < wD d
        · rw [if_pos c]
          rw [decide_eq_true c] at im
          simp (disch := omega) only [fX13_layFew_49, qbI_s, qbL_s, qbV_s, qbR_s, qbR_n, qbN_s, qbN_n, qbIX_s, qbIX_n, qbVX_s, qbVX_n, cond_true, cond_false, cond_dec, jadd, jsub, jmul, jneg, li_0, li_1, li_2, li_3, li_4, li_5, li_6, li_7, li_8, li_9, li_10, li_14, li_15, li_16, li_19, li_20, li_24, li_30, li_31, li_32, li_39, li_40, li_48, li_57, li_59, li_60, li_63, li_65, li_80, li_81, li_90, li_97, li_99, li_100, li_122, li_126, li_127, li_150, li_160, li_200, li_225, li_255, li_400, li_799, li_800, li_999, li_2400, li_3239, li_3240, li_1048575, li_1431655765, li_858993459, li_252645135, eqb_j, ltb_j, leb_j, inb_j, ix_j, ix_n, nz_b, nz_0, nz_1, eqb_b, bnot, vI_ne, vI_eq, gIL, gLI, gIR, gRI, gLR, gRL, Int.reduceLT, Int.reduceLE, Int.reduceEq, Int.reduceAdd, Int.reduceSub, Int.reduceMul, Int.reduceNeg, Int.reduceToNat, Nat.reduceEqDiff, reduceIte, if_neg, if_pos, gI_ne, gIv 98, q43, g1, q46, im, show bI true = 1 from rfl]
          exact kp
        · rw [if_neg c]
          rw [decide_eq_false c] at im
          refine wp_e (x := ()) (m := m1) ?_ M1
          simp (disch := omega) only [fX13_layFew_49, qbI_s, qbL_s, qbV_s, qbR_s, qbR_n, qbN_s, qbN_n, qbIX_s, qbIX_n, qbVX_s, qbVX_n, cond_true, cond_false, cond_dec, jadd, jsub, jmul, jneg, li_0, li_1, li_2, li_3, li_4, li_5, li_6, li_7, li_8, li_9, li_10, li_14, li_15, li_16, li_19, li_20, li_24, li_30, li_31, li_32, li_39, li_40, li_48, li_57, li_59, li_60, li_63, li_65, li_80, li_81, li_90, li_97, li_99, li_100, li_122, li_126, li_127, li_150, li_160, li_200, li_225, li_255, li_400, li_799, li_800, li_999, li_2400, li_3239, li_3240, li_1048575, li_1431655765, li_858993459, li_252645135, eqb_j, ltb_j, leb_j, inb_j, ix_j, ix_n, nz_b, nz_0, nz_1, eqb_b, bnot, vI_ne, vI_eq, gIL, gLI, gIR, gRI, gLR, gRL, Int.reduceLT, Int.reduceLE, Int.reduceEq, Int.reduceAdd, Int.reduceSub, Int.reduceMul, Int.reduceNeg, Int.reduceToNat, Nat.reduceEqDiff, reduceIte, if_neg, if_pos, gI_ne, gIv 98, q43, g1, q46, im, show bI false = 0 from rfl]
    have q46 := hM.2.1
    by_cases h : b.1 = -1
    · rw [if_pos h] at q46
      simp (disch := omega) only [fX13_layFew_0, hg, fX13_layFew_4, qbI_s, qbL_s, qbV_s, qbR_s, qbR_n, qbN_s, qbN_n, qbIX_s, qbIX_n, qbVX_s, qbVX_n, cond_true, cond_false, cond_dec, jadd, jsub, jmul, jneg, li_0, li_1, li_2, li_3, li_4, li_5, li_6, li_7, li_8, li_9, li_10, li_14, li_15, li_16, li_19, li_20, li_24, li_30, li_31, li_32, li_39, li_40, li_48, li_57, li_59, li_60, li_63, li_65, li_80, li_81, li_90, li_97, li_99, li_100, li_122, li_126, li_127, li_150, li_160, li_200, li_225, li_255, li_400, li_799, li_800, li_999, li_2400, li_3239, li_3240, li_1048575, li_1431655765, li_858993459, li_252645135, eqb_j, ltb_j, leb_j, inb_j, ix_j, ix_n, nz_b, nz_0, nz_1, eqb_b, bnot, vI_ne, vI_eq, gIL, gLI, gIR, gRI, gLR, gRL, Int.reduceLT, Int.reduceLE, Int.reduceEq, Int.reduceAdd, Int.reduceSub, Int.reduceMul, Int.reduceNeg, Int.reduceToNat, Nat.reduceEqDiff, reduceIte, if_neg, if_pos, gI_ne, gIv 98, q43, q46]
      rw [if_pos (show b.1 < wD d by omega)] at fin
      exact fin
    · rw [if_neg h] at q46
      obtain ⟨u1, u2, u3, u4⟩ := hM.2.2.1 h
      obtain ⟨hb1, hb2⟩ : b.1 = wD b.2 ∧ Reach d0 p al i b.2 := hb.resolve_left h
      have vb := val_r b.2 (hb2.f hP (Nat.le_refl _)).1
      have W1 : wD d = (vM d : Int) * 67108864 + (vA d : Int) * 1048576 - (vW d : Int) * 1024 + vP d := rfl
      have W2 : wD b.2 = (vM b.2 : Int) * 67108864 + (vA b.2 : Int) * 1048576 - (vW b.2 : Int) * 1024 + vP b.2 := rfl
      have out : b.1 ≥ wD d → MFw i p d0 m0 d (if b.1 < wD d then (wD d, d) else b) m := fun h => by rw [if_neg (by omega)]; exact hM
      by_cases c1 : (vM d : Int) < vM b.2
      · refine wp_e (x := ()) (m := m) ?_ (out (by omega))
        simp (disch := omega) only [fX13_layFew_0, hg, fX13_layFew_4, fX13_layFew_48, qbI_s, qbL_s, qbV_s, qbR_s, qbR_n, qbN_s, qbN_n, qbIX_s, qbIX_n, qbVX_s, qbVX_n, cond_true, cond_false, cond_dec, jadd, jsub, jmul, jneg, li_0, li_1, li_2, li_3, li_4, li_5, li_6, li_7, li_8, li_9, li_10, li_14, li_15, li_16, li_19, li_20, li_24, li_30, li_31, li_32, li_39, li_40, li_48, li_57, li_59, li_60, li_63, li_65, li_80, li_81, li_90, li_97, li_99, li_100, li_122, li_126, li_127, li_150, li_160, li_200, li_225, li_255, li_400, li_799, li_800, li_999, li_2400, li_3239, li_3240, li_1048575, li_1431655765, li_858993459, li_252645135, eqb_j, ltb_j, leb_j, inb_j, ix_j, ix_n, nz_b, nz_0, nz_1, eqb_b, bnot, vI_ne, vI_eq, gIL, gLI, gIR, gRI, gLR, gRL, Int.reduceLT, Int.reduceLE, Int.reduceEq, Int.reduceAdd, Int.reduceSub, Int.reduceMul, Int.reduceNeg, Int.reduceToNat, Nat.reduceEqDiff, reduceIte, if_neg, if_pos, gI_ne, gIv 98, q43, q46, u2, u3]
      · by_cases c2 : (vM d : Int) = vM b.2
        · by_cases c3 : (vA b.2 : Int) ≤ vA d
          · simp (disch := omega) only [fX13_layFew_0, hg, fX13_layFew_4, fX13_layFew_48, qbI_s, qbL_s, qbV_s, qbR_s, qbR_n, qbN_s, qbN_n, qbIX_s, qbIX_n, qbVX_s, qbVX_n, cond_true, cond_false, cond_dec, jadd, jsub, jmul, jneg, li_0, li_1, li_2, li_3, li_4, li_5, li_6, li_7, li_8, li_9, li_10, li_14, li_15, li_16, li_19, li_20, li_24, li_30, li_31, li_32, li_39, li_40, li_48, li_57, li_59, li_60, li_63, li_65, li_80, li_81, li_90, li_97, li_99, li_100, li_122, li_126, li_127, li_150, li_160, li_200, li_225, li_255, li_400, li_799, li_800, li_999, li_2400, li_3239, li_3240, li_1048575, li_1431655765, li_858993459, li_252645135, eqb_j, ltb_j, leb_j, inb_j, ix_j, ix_n, nz_b, nz_0, nz_1, eqb_b, bnot, vI_ne, vI_eq, gIL, gLI, gIR, gRI, gLR, gRL, Int.reduceLT, Int.reduceLE, Int.reduceEq, Int.reduceAdd, Int.reduceSub, Int.reduceMul, Int.reduceNeg, Int.reduceToNat, Nat.reduceEqDiff, reduceIte, if_neg, if_pos, gI_ne, gIv 98, q43, q46, u2, u3]
            exact fin
          · refine wp_e (x := ()) (m := m) ?_ (out (by omega))
            simp (disch := omega) only [fX13_layFew_0, hg, fX13_layFew_4, fX13_layFew_48, qbI_s, qbL_s, qbV_s, qbR_s, qbR_n, qbN_s, qbN_n, qbIX_s, qbIX_n, qbVX_s, qbVX_n, cond_true, cond_false, cond_dec, jadd, jsub, jmul, jneg, li_0, li_1, li_2, li_3, li_4, li_5, li_6, li_7, li_8, li_9, li_10, li_14, li_15, li_16, li_19, li_20, li_24, li_30, li_31, li_32, li_39, li_40, li_48, li_57, li_59, li_60, li_63, li_65, li_80, li_81, li_90, li_97, li_99, li_100, li_122, li_126, li_127, li_150, li_160, li_200, li_225, li_255, li_400, li_799, li_800, li_999, li_2400, li_3239, li_3240, li_1048575, li_1431655765, li_858993459, li_252645135, eqb_j, ltb_j, leb_j, inb_j, ix_j, ix_n, nz_b, nz_0, nz_1, eqb_b, bnot, vI_ne, vI_eq, gIL, gLI, gIR, gRI, gLR, gRL, Int.reduceLT, Int.reduceLE, Int.reduceEq, Int.reduceAdd, Int.reduceSub, Int.reduceMul, Int.reduceNeg, Int.reduceToNat, Nat.reduceEqDiff, reduceIte, if_neg, if_pos, gI_ne, gIv 98, q43, q46, u2, u3]
        · simp (disch := omega) only [fX13_layFew_0, hg, fX13_layFew_4, fX13_layFew_48, qbI_s, qbL_s, qbV_s, qbR_s, qbR_n, qbN_s, qbN_n, qbIX_s, qbIX_n, qbVX_s, qbVX_n, cond_true, cond_false, cond_dec, jadd, jsub, jmul, jneg, li_0, li_1, li_2, li_3, li_4, li_5, li_6, li_7, li_8, li_9, li_10, li_14, li_15, li_16, li_19, li_20, li_24, li_30, li_31, li_32, li_39, li_40, li_48, li_57, li_59, li_60, li_63, li_65, li_80, li_81, li_90, li_97, li_99, li_100, li_122, li_126, li_127, li_150, li_160, li_200, li_225, li_255, li_400, li_799, li_800, li_999, li_2400, li_3239, li_3240, li_1048575, li_1431655765, li_858993459, li_252645135, eqb_j, ltb_j, leb_j, inb_j, ix_j, ix_n, nz_b, nz_0, nz_1, eqb_b, bnot, vI_ne, vI_eq, gIL, gLI, gIR, gRI, gLR, gRL, Int.reduceLT, Int.reduceLE, Int.reduceEq, Int.reduceAdd, Int.reduceSub, Int.reduceMul, Int.reduceNeg, Int.reduceToNat, Nat.reduceEqDiff, reduceIte, if_neg, if_pos, gI_ne, gIv 98, q43, q46, u2, u3]
          rw [if_pos (show b.1 < wD d by omega)] at fin
          exact fin
  | succ r ih =>
    intro i n m d b hi hn hR hb hM
    obtain ⟨n, rfl⟩ : ∃ n', n = n' + 1 := ⟨n - 1, by omega⟩
    have hf := hR.f hP (by omega)
    have hD := hf.1
    have vr := val_r d hD
    have br := hb.r hP
    have un := hR.un hP (show i < N by omega)
    have mur := muS_r d0 p (r + 1) i
    have hpl := (hP.2.2.1 i (by omega)).1
    have hmu := (hD0.2.2.2.2.2.2 (p i) hpl).2.2.1
    have q43 : vI m 98 43 = N := (hM.2.2.2.v 98 43 (by omega)).trans h43
    have q129 : vI m 129 i = p i := (hM.2.2.2.v 129 i (by omega)).trans (h129 i (by omega))
    show wp (fX13_layFew_0 (GX13_layFew n) (Zi i) (Zi fr) (Zi ((vM d : Int) - vM d0)) (Zi ((vA d : Int) - vA d0)) m) _
    have fin : wp (fX13_layFew_49 (GX13_layFew n) (Zi i) (Zi fr) (Zi ((vM d : Int) - vM d0)) (Zi ((vA d : Int) - vA d0)) m) (fun _ m' => MFw N p d0 m0 d (enB p al (r + 1) i d b) m') := by
      have key : ∀ (r2 s g : Nat) (m2 : qM) (b2 : Bs), s + r2 = 20 → r2 < g → bOK d0 p al N b2 → MFw N p d0 m0 d b2 m2 → fr ≤ s → wp (fX13_layFew_100 (GX13_layFew n) g (Zi i) (Zi fr) (Zi ((vM d : Int) - vM d0)) (Zi ((vA d : Int) - vA d0)) (Zi (p i)) (Zi s) m2) (fun _ m' => MFw N p d0 m0 d (enB p al r (i + 1) d (slE (enB p al r (i + 1)) al d (p i) r2 s b2)) m') := by
        intro r2
        induction r2 with
        | zero =>
          intro s g m2 b2 hs hg hb2 hM2 hfs
          obtain ⟨g, rfl⟩ : ∃ g', g = g' + 1 := ⟨g - 1, by omega⟩
          obtain ⟨x3, m3, g1, g2⟩ := ih (i + 1) n m2 d b2 (by omega) (by omega) hR.nx hb2 hM2
          refine wp_e (x := ()) (m := m3) ?_ g2
          have g1' : GX13_layFew n [.ref 98, .int (Zi ((i : Int) + 1)), .int (Zi fr), .int (Zi ((vM d : Int) - vM d0)), .int (Zi ((vA d : Int) - vA d0))] m2 = some (x3, m3) := g1
          simp (disch := omega) only [fX13_layFew_100, qbI_s, qbL_s, qbV_s, qbR_s, qbR_n, qbN_s, qbN_n, qbIX_s, qbIX_n, qbVX_s, qbVX_n, cond_true, cond_false, cond_dec, jadd, jsub, jmul, jneg, li_0, li_1, li_2, li_3, li_4, li_5, li_6, li_7, li_8, li_9, li_10, li_14, li_15, li_16, li_19, li_20, li_24, li_30, li_31, li_32, li_39, li_40, li_48, li_57, li_59, li_60, li_63, li_65, li_80, li_81, li_90, li_97, li_99, li_100, li_122, li_126, li_127, li_150, li_160, li_200, li_225, li_255, li_400, li_799, li_800, li_999, li_2400, li_3239, li_3240, li_1048575, li_1431655765, li_858993459, li_252645135, eqb_j, ltb_j, leb_j, inb_j, ix_j, ix_n, nz_b, nz_0, nz_1, eqb_b, bnot, vI_ne, vI_eq, gIL, gLI, gIR, gRI, gLR, gRL, Int.reduceLT, Int.reduceLE, Int.reduceEq, Int.reduceAdd, Int.reduceSub, Int.reduceMul, Int.reduceNeg, Int.reduceToNat, Nat.reduceEqDiff, reduceIte, if_neg, if_pos, gI_ne, g1']
        | succ r2 ih2 =>
          intro s g m2 b2 hs hg hb2 hM2 hfs
          obtain ⟨g, rfl⟩ : ∃ g', g = g' + 1 := ⟨g - 1, by omega⟩
          have hmb := mayBe_s m2 (MOk.ofD hD hM2.1) (p i) s (by rw [hM2.1 98 32 (by unfold dP; omega)]; exact un.2) (by omega) (by rw [hM2.1 125 (p i) (by unfold dP; omega)]; exact un.1)
          rw [mb_mono hM2.1] at hmb
          rw [slE, hal s, decide_eq_true hfs, Bool.and_true]
          cases hbit : mbV d (p i) s
          · rw [hbit] at hmb
            have := ih2 (s + 1) g m2 b2 (by omega) (by omega) hb2 hM2 (by omega)
            simp (disch := omega) only [fX13_layFew_100, fX13_layFew_138, qbI_s, qbL_s, qbV_s, qbR_s, qbR_n, qbN_s, qbN_n, qbIX_s, qbIX_n, qbVX_s, qbVX_n, cond_true, cond_false, cond_dec, jadd, jsub, jmul, jneg, li_0, li_1, li_2, li_3, li_4, li_5, li_6, li_7, li_8, li_9, li_10, li_14, li_15, li_16, li_19, li_20, li_24, li_30, li_31, li_32, li_39, li_40, li_48, li_57, li_59, li_60, li_63, li_65, li_80, li_81, li_90, li_97, li_99, li_100, li_122, li_126, li_127, li_150, li_160, li_200, li_225, li_255, li_400, li_799, li_800, li_999, li_2400, li_3239, li_3240, li_1048575, li_1431655765, li_858993459, li_252645135, eqb_j, ltb_j, leb_j, inb_j, ix_j, ix_n, nz_b, nz_0, nz_1, eqb_b, bnot, vI_ne, vI_eq, gIL, gLI, gIR, gRI, gLR, gRL, Int.reduceLT, Int.reduceLE, Int.reduceEq, Int.reduceAdd, Int.reduceSub, Int.reduceMul, Int.reduceNeg, Int.reduceToNat, Nat.reduceEqDiff, reduceIte, if_neg, if_pos, gI_ne, hmb, show bI false = 0 from rfl]
            exact this
          · rw [hbit] at hmb
            rw [if_pos rfl]
            have R4 := hR.up (show s < 20 by omega) hbit (show al s = true by rw [hal s]; exact decide_eq_true hfs)
            have setM : ∀ (w : qM) (e : Dt) (b' : Bs) (x : Int), -1 ≤ x ∧ x ≤ 19 → MFw N p d0 m0 e b' w → MFw N p d0 m0 (upS e (p i) x) b' (sI w 125 (p i) (Zi x)) := by
              intro w e b' x hx hw
              obtain ⟨w1, w2, w3, w4⟩ := hw
              refine ⟨fun c k hc => ?_, by rw [vI_ne (by omega)]; exact w2, fun h => ?_, w4.wI 125 (p i) _ (by omega)⟩
              · by_cases e125 : c = 125
                · rw [e125, upS_eq]
                  by_cases ek : k = p i
                  · rw [if_pos ek, ek]
                    simp (disch := omega) only [qbI_s, qbL_s, qbV_s, qbR_s, qbR_n, qbN_s, qbN_n, qbIX_s, qbIX_n, qbVX_s, qbVX_n, cond_true, cond_false, cond_dec, jadd, jsub, jmul, jneg, li_0, li_1, li_2, li_3, li_4, li_5, li_6, li_7, li_8, li_9, li_10, li_14, li_15, li_16, li_19, li_20, li_24, li_30, li_31, li_32, li_39, li_40, li_48, li_57, li_59, li_60, li_63, li_65, li_80, li_81, li_90, li_97, li_99, li_100, li_122, li_126, li_127, li_150, li_160, li_200, li_225, li_255, li_400, li_799, li_800, li_999, li_2400, li_3239, li_3240, li_1048575, li_1431655765, li_858993459, li_252645135, eqb_j, ltb_j, leb_j, inb_j, ix_j, ix_n, nz_b, nz_0, nz_1, eqb_b, bnot, vI_ne, vI_eq, gIL, gLI, gIR, gRI, gLR, gRL, Int.reduceLT, Int.reduceLE, Int.reduceEq, Int.reduceAdd, Int.reduceSub, Int.reduceMul, Int.reduceNeg, Int.reduceToNat, Nat.reduceEqDiff, reduceIte, if_neg, if_pos, gI_ne]
                  · rw [if_neg ek, vI_of (show gI (sI w 125 (p i) (Zi x)) 125 k = gI w 125 k by rw [gI_eq, if_neg ek])]
                    exact w1 125 k (by unfold dP; omega)
                · rw [upS_ne _ _ _ e125, vI_ne e125]
                  exact w1 c k hc
              · obtain ⟨u1, u2, u3, u4⟩ := w3 h
                exact ⟨fun k hk => by rw [vI_ne (by omega)]; exact u1 k hk, by rw [vI_ne (by omega)]; exact u2, by rw [vI_ne (by omega)]; exact u3, fun j hj => by rw [vI_ne (by omega)]; exact u4 j hj⟩
            have M4 := setM m2 d b2 s (by omega) hM2
            obtain ⟨x5, m5, g1, g2⟩ := ih (i + 1) n (sI m2 125 (p i) (Zi s)) (upS d (p i) s) b2 (by omega) (by omega) R4 hb2 M4
            have M6 := setM m5 _ _ (-1) (by omega) g2
            have hdd : upS (upS d (p i) s) (p i) (-1) = d := by rw [upS_up, ← un.1, upS_self]
            rw [hdd] at M6
            have nx := ih2 (s + 1) g _ (enB p al r (i + 1) (upS d (p i) s) b2) (by omega) (by omega) (enB_ok r (i + 1) _ _ (by omega) R4 hb2) M6 (by omega)
            rw [vA_up d (p i) un.2 un.1 s, vM_up d (p i) un.2 un.1 s, show (vM d : Int) + muI d (p i) - vM d0 = (vM d : Int) - vM d0 + muI d (p i) by omega, show ((vA d + 1 : Nat) : Int) - vA d0 = (vA d : Int) - vA d0 + 1 by omega] at g1
            have g1' : GX13_layFew n [.ref 98, .int (Zi ((i : Int) + 1)), .int (Zi fr), .int (Zi ((vM d : Int) - vM d0 + muI d (p i))), .int (Zi ((vA d : Int) - vA d0 + 1))] (sI m2 125 (p i) (Zi s)) = some (x5, m5) := g1
            have q126 : vI m2 126 (p i) = d0 126 (p i) := by rw [hM2.1 126 (p i) (by unfold dP; omega), hf.2.1 126 (p i) (by omega)]
            rcases hmu with h | h
            · rw [show muI d (p i) = 0 by unfold muI; rw [hf.2.1 126 (p i) (by omega), if_neg (by omega)]] at g1'
              simp (disch := omega) only [fX13_layFew_100, fX13_layFew_128, fX13_layFew_138, qbI_s, qbL_s, qbV_s, qbR_s, qbR_n, qbN_s, qbN_n, qbIX_s, qbIX_n, qbVX_s, qbVX_n, cond_true, cond_false, cond_dec, jadd, jsub, jmul, jneg, li_0, li_1, li_2, li_3, li_4, li_5, li_6, li_7, li_8, li_9, li_10, li_14, li_15, li_16, li_19, li_20, li_24, li_30, li_31, li_32, li_39, li_40, li_48, li_57, li_59, li_60, li_63, li_65, li_80, li_81, li_90, li_97, li_99, li_100, li_122, li_126, li_127, li_150, li_160, li_200, li_225, li_255, li_400, li_799, li_800, li_999, li_2400, li_3239, li_3240, li_1048575, li_1431655765, li_858993459, li_252645135, eqb_j, ltb_j, leb_j, inb_j, ix_j, ix_n, nz_b, nz_0, nz_1, eqb_b, bnot, vI_ne, vI_eq, gIL, gLI, gIR, gRI, gLR, gRL, Int.reduceLT, Int.reduceLE, Int.reduceEq, Int.reduceAdd, Int.reduceSub, Int.reduceMul, Int.reduceNeg, Int.reduceToNat, Nat.reduceEqDiff, reduceIte, if_neg, if_pos, gI_ne, hmb, show bI true = 1 from rfl, gIv 126, q126, h, show (-1 : Int32) = Zi (-1) from rfl, g1']
              exact nx
            · rw [show muI d (p i) = 1 by unfold muI; rw [hf.2.1 126 (p i) (by omega), if_pos h]] at g1'
              simp (disch := omega) only [fX13_layFew_100, fX13_layFew_128, fX13_layFew_138, qbI_s, qbL_s, qbV_s, qbR_s, qbR_n, qbN_s, qbN_n, qbIX_s, qbIX_n, qbVX_s, qbVX_n, cond_true, cond_false, cond_dec, jadd, jsub, jmul, jneg, li_0, li_1, li_2, li_3, li_4, li_5, li_6, li_7, li_8, li_9, li_10, li_14, li_15, li_16, li_19, li_20, li_24, li_30, li_31, li_32, li_39, li_40, li_48, li_57, li_59, li_60, li_63, li_65, li_80, li_81, li_90, li_97, li_99, li_100, li_122, li_126, li_127, li_150, li_160, li_200, li_225, li_255, li_400, li_799, li_800, li_999, li_2400, li_3239, li_3240, li_1048575, li_1431655765, li_858993459, li_252645135, eqb_j, ltb_j, leb_j, inb_j, ix_j, ix_n, nz_b, nz_0, nz_1, eqb_b, bnot, vI_ne, vI_eq, gIL, gLI, gIR, gRI, gLR, gRL, Int.reduceLT, Int.reduceLE, Int.reduceEq, Int.reduceAdd, Int.reduceSub, Int.reduceMul, Int.reduceNeg, Int.reduceToNat, Nat.reduceEqDiff, reduceIte, if_neg, if_pos, gI_ne, hmb, show bI true = 1 from rfl, gIv 126, q126, h, show (-1 : Int32) = Zi (-1) from rfl, g1']
              exact nx
      have k0 := key (20 - fr) fr FU m b (by omega) (by rw [FU_d]; omega) hb hM (Nat.le_refl _)
      have sf := slE_from (enB p al r (i + 1)) al d (p i) b fr 0 (20 - fr) (fun s' h1 h2 => by rw [hal s']; exact decide_eq_false (by omega))
      rw [show fr + (20 - fr) = 20 by omega, Nat.zero_add] at sf
      rw [enB, sf]
      simp (disch := omega) only [fX13_layFew_49, qbI_s, qbL_s, qbV_s, qbR_s, qbR_n, qbN_s, qbN_n, qbIX_s, qbIX_n, qbVX_s, qbVX_n, cond_true, cond_false, cond_dec, jadd, jsub, jmul, jneg, li_0, li_1, li_2, li_3, li_4, li_5, li_6, li_7, li_8, li_9, li_10, li_14, li_15, li_16, li_19, li_20, li_24, li_30, li_31, li_32, li_39, li_40, li_48, li_57, li_59, li_60, li_63, li_65, li_80, li_81, li_90, li_97, li_99, li_100, li_122, li_126, li_127, li_150, li_160, li_200, li_225, li_255, li_400, li_799, li_800, li_999, li_2400, li_3239, li_3240, li_1048575, li_1431655765, li_858993459, li_252645135, eqb_j, ltb_j, leb_j, inb_j, ix_j, ix_n, nz_b, nz_0, nz_1, eqb_b, bnot, vI_ne, vI_eq, gIL, gLI, gIR, gRI, gLR, gRL, Int.reduceLT, Int.reduceLE, Int.reduceEq, Int.reduceAdd, Int.reduceSub, Int.reduceMul, Int.reduceNeg, Int.reduceToNat, Nat.reduceEqDiff, reduceIte, if_neg, if_pos, gI_ne, gIv 98, q43, gIv 129, q129]
      exact k0
    have q46 := hM.2.1
    have ms := mus (GX13_layFew n) (fX13_layFew_49 (GX13_layFew n)) (fX13_layFew_48 (GX13_layFew n)) (Zi i) (Zi fr) (Zi ((vM d : Int) - vM d0)) (Zi ((vA d : Int) - vA d0)) m d b i (by omega) hR hM (r + 1) i (FU - (r + 1) - 1) 0 hi
    rw [show FU - (r + 1) - 1 + 1 + (r + 1) = FU by rw [FU_d]; omega, Int.zero_add] at ms
    have ms' : fX13_layFew_0 (GX13_layFew n) (Zi i) (Zi fr) (Zi ((vM d : Int) - vM d0)) (Zi ((vA d : Int) - vA d0)) m = _ := ms
    rw [ms']
    by_cases h : b.1 = -1
    · rw [if_pos h] at q46
      simp (disch := omega) only [fX13_layFew_4, qbI_s, qbL_s, qbV_s, qbR_s, qbR_n, qbN_s, qbN_n, qbIX_s, qbIX_n, qbVX_s, qbVX_n, cond_true, cond_false, cond_dec, jadd, jsub, jmul, jneg, li_0, li_1, li_2, li_3, li_4, li_5, li_6, li_7, li_8, li_9, li_10, li_14, li_15, li_16, li_19, li_20, li_24, li_30, li_31, li_32, li_39, li_40, li_48, li_57, li_59, li_60, li_63, li_65, li_80, li_81, li_90, li_97, li_99, li_100, li_122, li_126, li_127, li_150, li_160, li_200, li_225, li_255, li_400, li_799, li_800, li_999, li_2400, li_3239, li_3240, li_1048575, li_1431655765, li_858993459, li_252645135, eqb_j, ltb_j, leb_j, inb_j, ix_j, ix_n, nz_b, nz_0, nz_1, eqb_b, bnot, vI_ne, vI_eq, gIL, gLI, gIR, gRI, gLR, gRL, Int.reduceLT, Int.reduceLE, Int.reduceEq, Int.reduceAdd, Int.reduceSub, Int.reduceMul, Int.reduceNeg, Int.reduceToNat, Nat.reduceEqDiff, reduceIte, if_neg, if_pos, gI_ne, gIv 98, q43, q46]
      exact fin
    · rw [if_neg h] at q46
      obtain ⟨u1, u2, u3, u4⟩ := hM.2.2.1 h
      obtain ⟨hb1, hb2⟩ : b.1 = wD b.2 ∧ Reach d0 p al N b.2 := hb.resolve_left h
      have vb := val_r b.2 (hb2.f hP (Nat.le_refl _)).1
      have W2 : wD b.2 = (vM b.2 : Int) * 67108864 + (vA b.2 : Int) * 1048576 - (vW b.2 : Int) * 1024 + vP b.2 := rfl
      have out : (∀ d', DOk d' → (vM d' : Int) ≤ vM d + muS d0 p (r + 1) i → (vA d' : Int) ≤ vA d + (r + 1 : Nat) → wD d' ≤ b.1) → MFw N p d0 m0 d (enB p al (r + 1) i d b) m := fun h => by
        rw [enB_skip p al (r + 1) i d b (LeB_cnt hP _ _ b.1 h (r + 1) i d hi hR (Int.le_refl _) (Int.le_refl _))]
        exact hM
      by_cases c1 : (vM d : Int) + muS d0 p (r + 1) i < vM b.2
      · refine wp_e (x := ()) (m := m) ?_ (out fun d' hD' h1 h2 => ?_)
        · simp (disch := omega) only [fX13_layFew_4, fX13_layFew_48, qbI_s, qbL_s, qbV_s, qbR_s, qbR_n, qbN_s, qbN_n, qbIX_s, qbIX_n, qbVX_s, qbVX_n, cond_true, cond_false, cond_dec, jadd, jsub, jmul, jneg, li_0, li_1, li_2, li_3, li_4, li_5, li_6, li_7, li_8, li_9, li_10, li_14, li_15, li_16, li_19, li_20, li_24, li_30, li_31, li_32, li_39, li_40, li_48, li_57, li_59, li_60, li_63, li_65, li_80, li_81, li_90, li_97, li_99, li_100, li_122, li_126, li_127, li_150, li_160, li_200, li_225, li_255, li_400, li_799, li_800, li_999, li_2400, li_3239, li_3240, li_1048575, li_1431655765, li_858993459, li_252645135, eqb_j, ltb_j, leb_j, inb_j, ix_j, ix_n, nz_b, nz_0, nz_1, eqb_b, bnot, vI_ne, vI_eq, gIL, gLI, gIR, gRI, gLR, gRL, Int.reduceLT, Int.reduceLE, Int.reduceEq, Int.reduceAdd, Int.reduceSub, Int.reduceMul, Int.reduceNeg, Int.reduceToNat, Nat.reduceEqDiff, reduceIte, if_neg, if_pos, gI_ne, gIv 98, q43, q46, u2, u3]
        · have vd := val_r d' hD'
          have W1 : wD d' = (vM d' : Int) * 67108864 + (vA d' : Int) * 1048576 - (vW d' : Int) * 1024 + vP d' := rfl
          omega
      · by_cases c2 : (vM d : Int) + muS d0 p (r + 1) i = vM b.2
        · by_cases c3 : (vA b.2 : Int) ≤ vA d + N - i
          · simp (disch := omega) only [fX13_layFew_4, fX13_layFew_48, qbI_s, qbL_s, qbV_s, qbR_s, qbR_n, qbN_s, qbN_n, qbIX_s, qbIX_n, qbVX_s, qbVX_n, cond_true, cond_false, cond_dec, jadd, jsub, jmul, jneg, li_0, li_1, li_2, li_3, li_4, li_5, li_6, li_7, li_8, li_9, li_10, li_14, li_15, li_16, li_19, li_20, li_24, li_30, li_31, li_32, li_39, li_40, li_48, li_57, li_59, li_60, li_63, li_65, li_80, li_81, li_90, li_97, li_99, li_100, li_122, li_126, li_127, li_150, li_160, li_200, li_225, li_255, li_400, li_799, li_800, li_999, li_2400, li_3239, li_3240, li_1048575, li_1431655765, li_858993459, li_252645135, eqb_j, ltb_j, leb_j, inb_j, ix_j, ix_n, nz_b, nz_0, nz_1, eqb_b, bnot, vI_ne, vI_eq, gIL, gLI, gIR, gRI, gLR, gRL, Int.reduceLT, Int.reduceLE, Int.reduceEq, Int.reduceAdd, Int.reduceSub, Int.reduceMul, Int.reduceNeg, Int.reduceToNat, Nat.reduceEqDiff, reduceIte, if_neg, if_pos, gI_ne, gIv 98, q43, q46, u2, u3]
            exact fin
          · refine wp_e (x := ()) (m := m) ?_ (out fun d' hD' h1 h2 => ?_)
            · simp (disch := omega) only [fX13_layFew_4, fX13_layFew_48, qbI_s, qbL_s, qbV_s, qbR_s, qbR_n, qbN_s, qbN_n, qbIX_s, qbIX_n, qbVX_s, qbVX_n, cond_true, cond_false, cond_dec, jadd, jsub, jmul, jneg, li_0, li_1, li_2, li_3, li_4, li_5, li_6, li_7, li_8, li_9, li_10, li_14, li_15, li_16, li_19, li_20, li_24, li_30, li_31, li_32, li_39, li_40, li_48, li_57, li_59, li_60, li_63, li_65, li_80, li_81, li_90, li_97, li_99, li_100, li_122, li_126, li_127, li_150, li_160, li_200, li_225, li_255, li_400, li_799, li_800, li_999, li_2400, li_3239, li_3240, li_1048575, li_1431655765, li_858993459, li_252645135, eqb_j, ltb_j, leb_j, inb_j, ix_j, ix_n, nz_b, nz_0, nz_1, eqb_b, bnot, vI_ne, vI_eq, gIL, gLI, gIR, gRI, gLR, gRL, Int.reduceLT, Int.reduceLE, Int.reduceEq, Int.reduceAdd, Int.reduceSub, Int.reduceMul, Int.reduceNeg, Int.reduceToNat, Nat.reduceEqDiff, reduceIte, if_neg, if_pos, gI_ne, gIv 98, q43, q46, u2, u3]
            · have vd := val_r d' hD'
              have W1 : wD d' = (vM d' : Int) * 67108864 + (vA d' : Int) * 1048576 - (vW d' : Int) * 1024 + vP d' := rfl
              omega
        · simp (disch := omega) only [fX13_layFew_4, fX13_layFew_48, qbI_s, qbL_s, qbV_s, qbR_s, qbR_n, qbN_s, qbN_n, qbIX_s, qbIX_n, qbVX_s, qbVX_n, cond_true, cond_false, cond_dec, jadd, jsub, jmul, jneg, li_0, li_1, li_2, li_3, li_4, li_5, li_6, li_7, li_8, li_9, li_10, li_14, li_15, li_16, li_19, li_20, li_24, li_30, li_31, li_32, li_39, li_40, li_48, li_57, li_59, li_60, li_63, li_65, li_80, li_81, li_90, li_97, li_99, li_100, li_122, li_126, li_127, li_150, li_160, li_200, li_225, li_255, li_400, li_799, li_800, li_999, li_2400, li_3239, li_3240, li_1048575, li_1431655765, li_858993459, li_252645135, eqb_j, ltb_j, leb_j, inb_j, ix_j, ix_n, nz_b, nz_0, nz_1, eqb_b, bnot, vI_ne, vI_eq, gIL, gLI, gIR, gRI, gLR, gRL, Int.reduceLT, Int.reduceLE, Int.reduceEq, Int.reduceAdd, Int.reduceSub, Int.reduceMul, Int.reduceNeg, Int.reduceToNat, Nat.reduceEqDiff, reduceIte, if_neg, if_pos, gI_ne, gIv 98, q43, q46, u2, u3]
          exact fin
