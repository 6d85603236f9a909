/-! a word found: the operation -/
theorem vI_nk {m : qM} {c c' k k' : Nat} {v : Int32} (h : ¬ (c' = c ∧ k' = k)) : vI (sI m c k v) c' k' = vI m c' k' := vI_of (by rw [gI_sI, if_neg h])
theorem openM_f (w : qM) (n : Nat) (hn : vI w 98 12 = n) : vI (openM w) 98 13 = n ∧ vI (openM w) 98 12 = 0 ∧ (∀ c k, ¬ (c = 98 ∧ 12 ≤ k ∧ k ≤ 15) → gI (openM w) c k = gI w c k) ∧ gR (openM w) = gR w := by
  have g12 : gI w 98 12 = Zi n := by rw [gIv 98, hn]
  have hr := vI_r w 98 12
  unfold openM
  rw [g12]
  refine ⟨?_, ?_, fun c k hc => ?_, ?_⟩
  · simp (disch := omega) only [qbI_s, qbL_s, qbV_s, qbR_s, qbR_n, qbN_s, qbN_n, qbIX_s, qbIX_n, qbVX_s, qbVX_n, cond_true, cond_false, cond_dec, jadd, jsub, jmul, jneg, li_0, li_1, li_2, li_3, li_4, li_5, li_6, li_7, li_8, li_9, li_10, li_14, li_15, li_16, li_19, li_20, li_24, li_30, li_31, li_32, li_39, li_40, li_48, li_57, li_59, li_60, li_63, li_65, li_80, li_81, li_90, li_97, li_99, li_100, li_122, li_126, li_127, li_150, li_160, li_200, li_225, li_255, li_400, li_799, li_800, li_999, li_2400, li_3239, li_3240, li_1048575, li_1431655765, li_858993459, li_252645135, eqb_j, ltb_j, leb_j, inb_j, ix_j, ix_n, nz_b, nz_0, nz_1, eqb_b, bnot, vI_ne, vI_eq, gIL, gLI, gIR, gRI, gLR, gRL, Int.reduceLT, Int.reduceLE, Int.reduceEq, Int.reduceAdd, Int.reduceSub, Int.reduceMul, Int.reduceNeg, Int.reduceToNat, Nat.reduceEqDiff, reduceIte, if_neg, if_pos, gI_ne]
  · simp (disch := omega) only [qbI_s, qbL_s, qbV_s, qbR_s, qbR_n, qbN_s, qbN_n, qbIX_s, qbIX_n, qbVX_s, qbVX_n, cond_true, cond_false, cond_dec, jadd, jsub, jmul, jneg, li_0, li_1, li_2, li_3, li_4, li_5, li_6, li_7, li_8, li_9, li_10, li_14, li_15, li_16, li_19, li_20, li_24, li_30, li_31, li_32, li_39, li_40, li_48, li_57, li_59, li_60, li_63, li_65, li_80, li_81, li_90, li_97, li_99, li_100, li_122, li_126, li_127, li_150, li_160, li_200, li_225, li_255, li_400, li_799, li_800, li_999, li_2400, li_3239, li_3240, li_1048575, li_1431655765, li_858993459, li_252645135, eqb_j, ltb_j, leb_j, inb_j, ix_j, ix_n, nz_b, nz_0, nz_1, eqb_b, bnot, vI_ne, vI_eq, gIL, gLI, gIR, gRI, gLR, gRL, Int.reduceLT, Int.reduceLE, Int.reduceEq, Int.reduceAdd, Int.reduceSub, Int.reduceMul, Int.reduceNeg, Int.reduceToNat, Nat.reduceEqDiff, reduceIte, if_neg, if_pos, gI_ne]
  · rw [gI_sI, gI_sI, gI_sI, if_neg (by omega), if_neg (by omega), if_neg (by omega)]
  · simp only [gR_sI]
theorem op_find (m : qM) (hR : R0 m) (t : Int) (ht : -2147483648 ≤ t ∧ t < 2147483648) : QOp m (fX11_find (Zi t)) (fX13_find (Zi t)) := by
  have hR' := hR
  obtain ⟨⟨hT, hRd, hRu, hFo, hHa⟩, ⟨hPt, hPf, hAp, hWk⟩, ⟨hAs, hPa, hCl, hDi, hBi, hCn⟩, ⟨hTe, hBe, hNo, hPo⟩⟩ := hR'
  have n32 : 0 ≤ vI m 98 32 ∧ vI m 98 32 ≤ 40 := ⟨hAs.2.1, hAs.2.2.1⟩
  obtain ⟨t1, t2, t3, t4, t5⟩ := hT
  have hT : RTape m := ⟨t1, t2, t3, t4, t5⟩
  obtain ⟨n, hn⟩ : ∃ n : Nat, vI m 1 1 = n := ⟨(vI m 1 1).toNat, by omega⟩
  have hn12 : vI m 98 12 = n := by rw [t3, hn]
  have cut0 : ∀ w : qM, fX8_cut (Zi 0) w = some ((), sI w 1 1 (Zi 0)) := fun w => by
    have hv := vI_r w 1 1
    rw [cut_s 0 w (by omega), show max 0 (min 0 (vI w 1 1)) = 0 by omega]
  have fin : ∀ (x : Int) (m1 m2 : qM), fX11_find (Zi t) m = some (Zi x, sI m1 1 1 (Zi 0)) → (∀ c k, ¬ (c = 97 ∨ c = 93 ∧ k = 5) → gI m1 c k = gI m c k) → gR m1 = gR m → fX13_find (Zi t) (sI m1 1 1 (Zi 0)) = some (Zi x, m2) → (∀ c k, ¬ (c = 98 ∧ (12 ≤ k ∧ k ≤ 15 ∨ k = 75) ∨ c = 152) → gI m2 c k = gI (sI m1 1 1 (Zi 0)) c k) → gR m2 = gR m1 → vI m2 98 12 = 0 → (vI m2 93 5 = vI m2 98 75 ∧ 0 ≤ vI m2 98 75 ∧ vI m2 98 75 ≤ 40) → (∀ i, i < 40 → vI m2 97 i = vI m2 152 i) → QOp m (fX11_find (Zi t)) (fX13_find (Zi t)) := by
    intro x m1 m2 e1 e2 e3 e4 e5 e6 e7 e8 e9
    have q : ∀ c k, ¬ (c = 1 ∧ k = 1 ∨ c = 97 ∨ c = 93 ∧ k = 5 ∨ c = 98 ∧ (12 ≤ k ∧ k ≤ 15 ∨ k = 75) ∨ c = 152) → gI m2 c k = gI m c k := fun c k hc => by
      rw [e5 c k (by omega), gI_sI, if_neg (by omega)]
      exact e2 c k (by omega)
    have hT9 : RTape m2 := by
      have v11 : vI m2 1 1 = 0 := by rw [vI_of (e5 1 1 (by omega)), vI_eq (by omega), if_pos rfl]
      refine ⟨by omega, by omega, by omega, fun k hk => ?_, fun k hk => ?_⟩
      · rw [q 2 k (by omega), q 110 k (by omega)]
        exact t4 k hk
      · rw [vI_of (q 110 k (by omega))]
        exact t5 k hk
    have hB : RNoteB m2 := (RNoteB.of hNo).mono fun c k hc => q c k (by omega)
    have h8 : RNote m2 := ⟨hB.1, hB.2.1, hB.2.2.1, hB.2.2.2.1, hB.2.2.2.2, e8, fun i hi => by rw [gIv 97, gIv 152, e9 i hi], by
      rw [vI_of (q 93 6 (by omega)), hNo.2.2.2.2.2.2.2, show (fun a => decide (0 < vI m2 151 a)) = (fun a => decide (0 < vI m 151 a)) from funext fun a => by rw [vI_of (q 151 a (by omega))]]⟩
    refine QOp.ok e1 e4 rfl (⟨⟨(hT9), hRd.mono (fun c k hc => q c k (by omega)), hRu.mono (fun c k hc => q c k (by omega)), hFo.mono (fun c k hc => q c k (by omega)), hHa.mono (fun c k hc => q c k (by omega))⟩, ⟨hPt.mono (fun c k hc => q c k (by omega)), hPf.mono (fun c k hc => q c k (by omega)), hAp.mono (fun c k hc => q c k (by omega)), hWk.mono (fun c k hc => q c k (by omega))⟩, ⟨hAs.mono (fun c k hc => q c k (by omega)), hPa.mono (fun c k hc => q c k (by omega)), hCl.mono (fun c k hc => q c k (by omega)), hDi.mono (fun c k hc => q c k (by omega)), hBi.mono (fun c k hc => q c k (by omega)), hCn.mono (fun c k hc => q c k (by omega))⟩, ⟨hTe.mono (fun c k hc => q c k (by omega)), hBe.mono (fun c k hc => q c k (by omega)), (h8), hPo.mono (fun c k hc => q c k (by omega)) (by rw [e6, e3])⟩⟩) (EK.of fun c k hc => q c k (by unfold EvD at hc; omega))
  -- nothing is looked for
  have fin0 : ∀ (x : Int) (m2 : qM), fX11_find (Zi t) m = some (Zi x, sI m 1 1 (Zi 0)) → fX13_find (Zi t) (sI m 1 1 (Zi 0)) = some (Zi x, openM (sI m 1 1 (Zi 0))) → QOp m (fX11_find (Zi t)) (fX13_find (Zi t)) := by
    intro x m2 e1 e4
    obtain ⟨o2, o3, o4, o5⟩ := openM_f (sI m 1 1 (Zi 0)) n (by rw [vI_ne (by omega)]; exact hn12)
    have v : ∀ c k, ¬ (c = 1 ∧ k = 1 ∨ c = 98 ∧ 12 ≤ k ∧ k ≤ 15) → vI (openM (sI m 1 1 (Zi 0))) c k = vI m c k := fun c k hc => by rw [vI_of (o4 c k (by omega)), vI_nk (by omega)]
    refine fin x m _ e1 (fun _ _ _ => rfl) rfl e4 (fun c k hc => o4 c k (by omega)) (by rw [o5, gR_sI]) o3 ?_ (fun i hi => ?_)
    · rw [v 93 5 (by omega), v 98 75 (by omega)]
      exact hNo.2.2.2.2.2.1
    · rw [v 97 i (by omega), v 152 i (by omega), vI_of (hNo.2.2.2.2.2.2.1 i hi)]
  by_cases h1 : 0 ≤ t ∧ t ≤ 9
  · obtain ⟨b, rfl⟩ : ∃ b : Nat, t = b := ⟨t.toNat, by omega⟩
    cases hw : wordB m n
    · refine fin0 (-1) m ?_ ?_
      · rw [fX11_find_d]
        simp (disch := omega) only [fX11_find_0, fX11_find_11, fX2_search_d, fX2_search_0, qbI_s, qbL_s, qbV_s, qbR_s, qbR_n, qbN_s, qbN_n, qbIX_s, qbIX_n, qbVX_s, qbVX_n, cond_true, cond_false, cond_dec, jadd, jsub, jmul, jneg, li_0, li_1, li_2, li_3, li_4, li_5, li_6, li_7, li_8, li_9, li_10, li_14, li_15, li_16, li_19, li_20, li_24, li_30, li_31, li_32, li_39, li_40, li_48, li_57, li_59, li_60, li_63, li_65, li_80, li_81, li_90, li_97, li_99, li_100, li_122, li_126, li_127, li_150, li_160, li_200, li_225, li_255, li_400, li_799, li_800, li_999, li_2400, li_3239, li_3240, li_1048575, li_1431655765, li_858993459, li_252645135, eqb_j, ltb_j, leb_j, inb_j, ix_j, ix_n, nz_b, nz_0, nz_1, eqb_b, bnot, vI_ne, vI_eq, gIL, gLI, gIR, gRI, gLR, gRL, Int.reduceLT, Int.reduceLE, Int.reduceEq, Int.reduceAdd, Int.reduceSub, Int.reduceMul, Int.reduceNeg, Int.reduceToNat, Nat.reduceEqDiff, reduceIte, if_neg, if_pos, gI_ne, tR_s, isWord_s m hT n hn, hw, show bI false = 0 from rfl, cut0]
      · obtain ⟨o2, o3, o4, o5⟩ := openM_f (sI m 1 1 (Zi 0)) n (by rw [vI_ne (by omega)]; exact hn12)
        have v110 : ∀ k, vI (openM (sI m 1 1 (Zi 0))) 110 k = vI m 110 k := fun k => by rw [vI_of (o4 110 k (by omega)), vI_ne (by omega)]
        rw [fX13_find_d]
        by_cases h20 : 1 ≤ n ∧ n ≤ 20
        · have hz := findM1 (openM (sI m 1 1 (Zi 0))) (fun k hk => by rw [v110]; exact t5 k hk) n o2 h20.2 (Zi b) (fX13_find_38 FU) n 0 FU (by omega) (by rw [FU_d]; omega)
          have hp : pd (∀ j, 0 ≤ j → j < n → isL (vI (openM (sI m 1 1 (Zi 0))) 110 j) = true) = false := pd_f fun h => by
            unfold wordB at hw
            rw [decide_eq_true h20, Bool.true_and, pd_t (fun i hi => by have := h i (Nat.zero_le _) hi; rw [v110] at this; exact this)] at hw
            cases hw
          rw [hp, if_neg (by decide)] at hz
          simp (disch := omega) only [fX13_find_0, open_M, qbI_s, qbL_s, qbV_s, qbR_s, qbR_n, qbN_s, qbN_n, qbIX_s, qbIX_n, qbVX_s, qbVX_n, cond_true, cond_false, cond_dec, jadd, jsub, jmul, jneg, li_0, li_1, li_2, li_3, li_4, li_5, li_6, li_7, li_8, li_9, li_10, li_14, li_15, li_16, li_19, li_20, li_24, li_30, li_31, li_32, li_39, li_40, li_48, li_57, li_59, li_60, li_63, li_65, li_80, li_81, li_90, li_97, li_99, li_100, li_122, li_126, li_127, li_150, li_160, li_200, li_225, li_255, li_400, li_799, li_800, li_999, li_2400, li_3239, li_3240, li_1048575, li_1431655765, li_858993459, li_252645135, eqb_j, ltb_j, leb_j, inb_j, ix_j, ix_n, nz_b, nz_0, nz_1, eqb_b, bnot, vI_ne, vI_eq, gIL, gLI, gIR, gRI, gLR, gRL, Int.reduceLT, Int.reduceLE, Int.reduceEq, Int.reduceAdd, Int.reduceSub, Int.reduceMul, Int.reduceNeg, Int.reduceToNat, Nat.reduceEqDiff, reduceIte, if_neg, if_pos, gI_ne, ll_0, ll_1, ll_3, ll_5, ll_9, ll_10, ll_13, ll_14, ll_19, ll_20, ll_32, ll_60, ll_126, ll_799, ll_1024, ll_1048576, ll_67108864, Zladd, Zlsub, Zlmul, Zlneg, toL, lg_lt, lg_gt, lg_le, tM_s, gIv 98, o2, in_s]
          exact hz
        · simp (disch := omega) only [fX13_find_0, open_M, qbI_s, qbL_s, qbV_s, qbR_s, qbR_n, qbN_s, qbN_n, qbIX_s, qbIX_n, qbVX_s, qbVX_n, cond_true, cond_false, cond_dec, jadd, jsub, jmul, jneg, li_0, li_1, li_2, li_3, li_4, li_5, li_6, li_7, li_8, li_9, li_10, li_14, li_15, li_16, li_19, li_20, li_24, li_30, li_31, li_32, li_39, li_40, li_48, li_57, li_59, li_60, li_63, li_65, li_80, li_81, li_90, li_97, li_99, li_100, li_122, li_126, li_127, li_150, li_160, li_200, li_225, li_255, li_400, li_799, li_800, li_999, li_2400, li_3239, li_3240, li_1048575, li_1431655765, li_858993459, li_252645135, eqb_j, ltb_j, leb_j, inb_j, ix_j, ix_n, nz_b, nz_0, nz_1, eqb_b, bnot, vI_ne, vI_eq, gIL, gLI, gIR, gRI, gLR, gRL, Int.reduceLT, Int.reduceLE, Int.reduceEq, Int.reduceAdd, Int.reduceSub, Int.reduceMul, Int.reduceNeg, Int.reduceToNat, Nat.reduceEqDiff, reduceIte, if_neg, if_pos, gI_ne, ll_0, ll_1, ll_3, ll_5, ll_9, ll_10, ll_13, ll_14, ll_19, ll_20, ll_32, ll_60, ll_126, ll_799, ll_1024, ll_1048576, ll_67108864, Zladd, Zlsub, Zlmul, Zlneg, toL, lg_lt, lg_gt, lg_le, tM_s, gIv 98, o2, in_s]
    · have hw' := hw
      unfold wordB at hw'
      rw [Bool.and_eq_true, decide_eq_true_eq, pd_iff] at hw'
      obtain ⟨h20, hl⟩ := hw'
      obtain ⟨x, w1, g1, rfl, s1, s2, f1⟩ := searchC m hT hAs (RNoteB.of hNo) b n (by omega) hn h20 hl (vI m 98 32).toNat 0 FU (sI m 93 5 (Zi 0)) (by omega) (by rw [FU_d]; omega) (Fr.wI (Fr.rf m) 93 5 _ (Or.inr ⟨rfl, rfl⟩)) (by
        funext k
        rw [vI_ne (by omega)]
        rfl) (by
        rw [vI_eq (by omega), if_pos rfl]
        rfl)
      obtain ⟨P, hP⟩ : ∃ P : Nat → Bool, P = fun a => mrB m b a && hwB (vI m) a n := ⟨_, rfl⟩
      rw [← hP] at g1 s1 s2
      have e1 : fX11_find (Zi b) m = some (Zi (fb_ct P (vI m 98 32).toNat), sI w1 1 1 (Zi 0)) := by
        rw [fX11_find_d]
        simp (disch := omega) only [fX11_find_0, fX11_find_11, fX2_search_d, fX2_search_0, qbI_s, qbL_s, qbV_s, qbR_s, qbR_n, qbN_s, qbN_n, qbIX_s, qbIX_n, qbVX_s, qbVX_n, cond_true, cond_false, cond_dec, jadd, jsub, jmul, jneg, li_0, li_1, li_2, li_3, li_4, li_5, li_6, li_7, li_8, li_9, li_10, li_14, li_15, li_16, li_19, li_20, li_24, li_30, li_31, li_32, li_39, li_40, li_48, li_57, li_59, li_60, li_63, li_65, li_80, li_81, li_90, li_97, li_99, li_100, li_122, li_126, li_127, li_150, li_160, li_200, li_225, li_255, li_400, li_799, li_800, li_999, li_2400, li_3239, li_3240, li_1048575, li_1431655765, li_858993459, li_252645135, eqb_j, ltb_j, leb_j, inb_j, ix_j, ix_n, nz_b, nz_0, nz_1, eqb_b, bnot, vI_ne, vI_eq, gIL, gLI, gIR, gRI, gLR, gRL, Int.reduceLT, Int.reduceLE, Int.reduceEq, Int.reduceAdd, Int.reduceSub, Int.reduceMul, Int.reduceNeg, Int.reduceToNat, Nat.reduceEqDiff, reduceIte, if_neg, if_pos, gI_ne, tR_s, isWord_s m hT n hn, hw, show bI true = 1 from rfl]
        rw [show fX2_search_10 FU (Zi b) (Zi 0) (sI m 93 5 (Zi 0)) = _ from g1, qbI_s, cut0, qbV_s]
      obtain ⟨o2, o3, o4, o5⟩ := openM_f (sI w1 1 1 (Zi 0)) n (by rw [vI_ne (by omega), f1.v 98 12 (by omega)]; exact hn12)
      obtain ⟨u, hu⟩ : ∃ u : qM, u = sI (openM (sI w1 1 1 (Zi 0))) 98 75 (Zi 0) := ⟨_, rfl⟩
      have qu : ∀ c k, ¬ (c = 1 ∧ k = 1 ∨ c = 97 ∨ c = 93 ∧ k = 5 ∨ c = 98 ∧ (12 ≤ k ∧ k ≤ 15 ∨ k = 75)) → gI u c k = gI m c k := fun c k hc => by
        rw [hu, gI_sI, if_neg (by omega), o4 c k (by omega), gI_sI, if_neg (by omega), f1.1 c k (by omega)]
      have vu : ∀ c k, ¬ (c = 1 ∧ k = 1 ∨ c = 97 ∨ c = 93 ∧ k = 5 ∨ c = 98 ∧ (12 ≤ k ∧ k ≤ 15 ∨ k = 75)) → vI u c k = vI m c k := fun c k hc => vI_of (qu c k hc)
      have hNu : NOk u := ⟨fun a ha => by rw [vu 151 a (by omega)]; exact (hNo.1 a ha).2, fun k hk => by rw [vu 153 k (by omega)]; exact (hNo.2.2.1 k hk).2, fun k hk => by rw [vu 110 k (by omega)]; exact t5 k hk⟩
      have u32 : vI u 98 32 = vI m 98 32 := vu 98 32 (by omega)
      have hPu : (fun a => mrB u b a && hwB (vI u) a n) = P := by
        rw [hP]
        funext a
        exact fndP_eq (fun c k hc => qu c k (by omega)) b a n
      obtain ⟨y, m2, g2, hy, s3, s4, f2⟩ := findM2 u hNu (fun k hk => by rw [vu 154 k (by omega)]; exact hNo.2.2.2.2.1 k hk) (by rw [u32]; exact n32) b n (by omega) (by rw [hu, vI_nk (by omega)]; exact o2) h20 (vI u 98 32).toNat 0 FU u (by omega) (by rw [FU_d]; omega) (Fr.rf u) rfl (by
        rw [hu, vI_eq (by omega), if_pos rfl]
        rfl)
      rw [hPu, u32] at hy s3 s4
      subst hy
      have e4 : fX13_find (Zi b) (sI w1 1 1 (Zi 0)) = some (Zi (fb_ct P (vI m 98 32).toNat), m2) := by
        have v110 : ∀ k, vI (openM (sI w1 1 1 (Zi 0))) 110 k = vI m 110 k := fun k => by rw [vI_of (o4 110 k (by omega)), vI_ne (by omega), f1.v 110 k (by omega)]
        rw [fX13_find_d]
        have hz := findM1 (openM (sI w1 1 1 (Zi 0))) (fun k hk => by rw [v110]; exact t5 k hk) n o2 h20.2 (Zi b) (fX13_find_38 FU) n 0 FU (by omega) (by rw [FU_d]; omega)
        rw [pd_t (fun j _ hj => by rw [v110]; exact hl j hj), if_pos rfl] at hz
        simp (disch := omega) only [fX13_find_0, open_M, qbI_s, qbL_s, qbV_s, qbR_s, qbR_n, qbN_s, qbN_n, qbIX_s, qbIX_n, qbVX_s, qbVX_n, cond_true, cond_false, cond_dec, jadd, jsub, jmul, jneg, li_0, li_1, li_2, li_3, li_4, li_5, li_6, li_7, li_8, li_9, li_10, li_14, li_15, li_16, li_19, li_20, li_24, li_30, li_31, li_32, li_39, li_40, li_48, li_57, li_59, li_60, li_63, li_65, li_80, li_81, li_90, li_97, li_99, li_100, li_122, li_126, li_127, li_150, li_160, li_200, li_225, li_255, li_400, li_799, li_800, li_999, li_2400, li_3239, li_3240, li_1048575, li_1431655765, li_858993459, li_252645135, eqb_j, ltb_j, leb_j, inb_j, ix_j, ix_n, nz_b, nz_0, nz_1, eqb_b, bnot, vI_ne, vI_eq, gIL, gLI, gIR, gRI, gLR, gRL, Int.reduceLT, Int.reduceLE, Int.reduceEq, Int.reduceAdd, Int.reduceSub, Int.reduceMul, Int.reduceNeg, Int.reduceToNat, Nat.reduceEqDiff, reduceIte, if_neg, if_pos, gI_ne, ll_0, ll_1, ll_3, ll_5, ll_9, ll_10, ll_13, ll_14, ll_19, ll_20, ll_32, ll_60, ll_126, ll_799, ll_1024, ll_1048576, ll_67108864, Zladd, Zlsub, Zlmul, Zlneg, toL, lg_lt, lg_gt, lg_le, tM_s, gIv 98, o2, in_s]
        rw [← hu] at hz
        exact hz.trans g2
      have hct := fb_ct_le P (vI m 98 32).toNat
      refine fin _ w1 m2 e1 (fun c k hc => f1.1 c k hc) f1.2.2 e4 (fun c k hc => ?_) ?_ ?_ ?_ (fun i hi => ?_)
      · rw [f2.1 c k (by omega), hu, gI_sI, if_neg (by omega), o4 c k (by omega)]
      · rw [f2.2.2, hu, gR_sI, o5, gR_sI]
      · rw [f2.v 98 12 (by omega), hu, vI_nk (by omega)]
        exact o3
      · have a5 : vI m2 93 5 = fb_ct P (vI m 98 32).toNat := by
          rw [f2.v 93 5 (by omega), hu, vI_ne (by omega), vI_of (o4 93 5 (by omega)), vI_ne (by omega), s2]
        omega
      · have a97 : vI m2 97 i = fdA P (vI m 97) (vI m 98 32).toNat i := by
          rw [f2.v 97 i (by omega), hu, vI_ne (by omega), vI_of (o4 97 i (by omega)), vI_ne (by omega), s1]
        rw [a97, s3]
        refine fdA_cong P _ _ (fun k hk => ?_) _ i hi
        rw [vu 152 k (by omega)]
        exact vI_of (hNo.2.2.2.2.2.2.1 k hk)
  · refine fin0 (-2) m ?_ ?_
    · rw [fX11_find_d]
      simp (disch := omega) only [fX11_find_0, fX11_find_11, qbI_s, qbL_s, qbV_s, qbR_s, qbR_n, qbN_s, qbN_n, qbIX_s, qbIX_n, qbVX_s, qbVX_n, cond_true, cond_false, cond_dec, jadd, jsub, jmul, jneg, li_0, li_1, li_2, li_3, li_4, li_5, li_6, li_7, li_8, li_9, li_10, li_14, li_15, li_16, li_19, li_20, li_24, li_30, li_31, li_32, li_39, li_40, li_48, li_57, li_59, li_60, li_63, li_65, li_80, li_81, li_90, li_97, li_99, li_100, li_122, li_126, li_127, li_150, li_160, li_200, li_225, li_255, li_400, li_799, li_800, li_999, li_2400, li_3239, li_3240, li_1048575, li_1431655765, li_858993459, li_252645135, eqb_j, ltb_j, leb_j, inb_j, ix_j, ix_n, nz_b, nz_0, nz_1, eqb_b, bnot, vI_ne, vI_eq, gIL, gLI, gIR, gRI, gLR, gRL, Int.reduceLT, Int.reduceLE, Int.reduceEq, Int.reduceAdd, Int.reduceSub, Int.reduceMul, Int.reduceNeg, Int.reduceToNat, Nat.reduceEqDiff, reduceIte, if_neg, if_pos, gI_ne, tR_s, show (-2 : Int32) = Zi (-2) from rfl, cut0]
    · rw [fX13_find_d]
      simp (disch := omega) only [fX13_find_0, open_M, qbI_s, qbL_s, qbV_s, qbR_s, qbR_n, qbN_s, qbN_n, qbIX_s, qbIX_n, qbVX_s, qbVX_n, cond_true, cond_false, cond_dec, jadd, jsub, jmul, jneg, li_0, li_1, li_2, li_3, li_4, li_5, li_6, li_7, li_8, li_9, li_10, li_14, li_15, li_16, li_19, li_20, li_24, li_30, li_31, li_32, li_39, li_40, li_48, li_57, li_59, li_60, li_63, li_65, li_80, li_81, li_90, li_97, li_99, li_100, li_122, li_126, li_127, li_150, li_160, li_200, li_225, li_255, li_400, li_799, li_800, li_999, li_2400, li_3239, li_3240, li_1048575, li_1431655765, li_858993459, li_252645135, eqb_j, ltb_j, leb_j, inb_j, ix_j, ix_n, nz_b, nz_0, nz_1, eqb_b, bnot, vI_ne, vI_eq, gIL, gLI, gIR, gRI, gLR, gRL, Int.reduceLT, Int.reduceLE, Int.reduceEq, Int.reduceAdd, Int.reduceSub, Int.reduceMul, Int.reduceNeg, Int.reduceToNat, Nat.reduceEqDiff, reduceIte, if_neg, if_pos, gI_ne, ll_0, ll_1, ll_3, ll_5, ll_9, ll_10, ll_13, ll_14, ll_19, ll_20, ll_32, ll_60, ll_126, ll_799, ll_1024, ll_1048576, ll_67108864, Zladd, Zlsub, Zlmul, Zlneg, toL, lg_lt, lg_gt, lg_le, tM_s, show (-2 : Int32) = Zi (-2) from rfl]
