/-! the rules: together -/
theorem op_rules (m : qM) (hR : R0 m) : QOp m fX11_rules fX13_rules := by
  have hR' := hR
  obtain ⟨⟨hT, hRd, hRu, hFo, hHa⟩, ⟨hPt, hPf, hAp, hWk⟩, ⟨hAs, hPa, hCl, hDi, hBi, hCn⟩, ⟨hTe, hBe, hNo, hPo⟩⟩ := hR'
  obtain ⟨t1, t2, t3, t4, t5⟩ := hT
  have hT : RTape m := ⟨t1, t2, t3, t4, t5⟩
  obtain ⟨n, hn⟩ : ∃ n : Nat, vI m 1 1 = n := ⟨(vI m 1 1).toNat, by omega⟩
  have hn12 : vI m 98 12 = n := by rw [t3, hn]
  have cut0 : ∀ w : qM, fX8_cut (Zi 0) w = some ((), sI w 1 1 (Zi 0)) := fun w => by
    have hv := vI_r w 1 1
    rw [cut_s 0 w (by omega), show max 0 (min 0 (vI w 1 1)) = 0 by omega]
  have fin : ∀ (x : Int) (w1 : qM), Fr (fun c k => c = 3 ∧ 1 ≤ k ∧ k ≤ 5 ∨ c = 5 ∧ k < 6 ∨ c = 6) m w1 → ((1 ≤ vI w1 5 0 ∧ vI w1 5 0 ≤ 30) ∧ (0 ≤ vI w1 5 1 ∧ vI w1 5 1 ≤ 20) ∧ (0 ≤ vI w1 5 2 ∧ vI w1 5 2 ≤ 20)) → (∀ wm : qM, fX3_measureWalks (sI w1 1 1 (Zi 0)) = some ((), wm) → fX11_rules m = some (Zi x, wm)) → (∀ wm : qM, Fr (fun c k => c = 3 ∧ 1 ≤ k ∧ k ≤ 5 ∨ c = 5 ∧ k < 6 ∨ c = 6 ∨ c = 56 ∨ c = 57 ∨ c = 1 ∧ k = 1) m wm → (∀ k, k < 6 → vI wm 5 k = vI w1 5 k) → gI wm 3 4 = gI w1 3 4 → gI wm 3 5 = gI w1 3 5 → ∃ m2, fX13_rules wm = some (Zi x, m2) ∧ Fr (fun c k => c = 98 ∧ 12 ≤ k ∧ k ≤ 19 ∨ c = 99 ∧ k < 6 ∨ c = 100 ∨ c = 111) wm m2 ∧ vI m2 98 12 = 0 ∧ RRead m2 ∧ RRule m2 ∧ ((∀ j, j < 81 → vI m 83 j = 0) ∨ (∀ k, gI m2 99 k = gI m 99 k))) → QOp m fX11_rules fX13_rules := by
    intro x w1 hF hr e1 e2
    have hB : mwB (sI w1 1 1 (Zi 0)) := by
      unfold mwB
      simp (disch := omega) only [vI_ne]
      refine ⟨hr.1, hr.2.1, hr.2.2, fun s hs => ?_⟩
      have k3 := hPt s hs
      rw [hF.v 48 s (by omega), hF.v 49 s (by omega)]
      omega
    obtain ⟨u, wm, g1, f1, f2⟩ := measure_s _ hB
    have hFm : Fr (fun c k => c = 3 ∧ 1 ≤ k ∧ k ≤ 5 ∨ c = 5 ∧ k < 6 ∨ c = 6 ∨ c = 56 ∨ c = 57 ∨ c = 1 ∧ k = 1) m wm := ((hF.wide fun c k hc => by omega).wI 1 1 _ (by omega)).tr (f1.wide fun c k hc => by omega)
    obtain ⟨m2, e4, hF2, h12, hRd2, hRu2, hE⟩ := e2 wm hFm (fun k hk => by rw [f1.v 5 k (by omega), vI_ne (by omega)]) (by rw [f1.1 3 4 (by omega), gI_sI, if_neg (by omega)]) (by rw [f1.1 3 5 (by omega), gI_sI, if_neg (by omega)])
    have q : ∀ c k, ¬ (c = 3 ∧ 1 ≤ k ∧ k ≤ 5 ∨ c = 5 ∧ k < 6 ∨ c = 6 ∨ c = 56 ∨ c = 57 ∨ c = 1 ∧ k = 1 ∨ c = 98 ∧ 12 ≤ k ∧ k ≤ 19 ∨ c = 99 ∧ k < 6 ∨ c = 100 ∨ c = 111) → gI m2 c k = gI m c k := fun c k hc => by rw [hF2.1 c k (by omega), hFm.1 c k (by omega)]
    have hP : RPeoT m2 := hPt.mono fun c k hc => q c k (by omega)
    have hT9 : RTape m2 := by
      have v11 : vI m2 1 1 = 0 := by rw [hF2.v 1 1 (by omega), f1.v 1 1 (by omega), vI_eq (by omega), if_pos rfl]
      refine ⟨by omega, by omega, by omega, fun k hk => ?_, fun k hk => ?_⟩
      · rw [q 2 k (by omega), q 110 k (by omega)]
        exact t4 k hk
      · rw [vI_of (q 110 k (by omega))]
        exact t5 k hk
    have hW : RWalk m2 := by
      refine mwI_W m2 m2 hRu2 hP ⟨Fr.rf _, fun i hi => ?_⟩
      obtain ⟨k1, k2⟩ := f2 i hi
      have v2 : ∀ c k, (c = 5 ∨ c = 48 ∨ c = 49) → vI m2 c k = vI (sI w1 1 1 (Zi 0)) c k := fun c k hc => by rw [hF2.v c k (by omega), f1.v c k (by omega)]
      have ew : wkC (vI m2) (i / 10) (i % 10) = wkC (vI (sI w1 1 1 (Zi 0))) (i / 10) (i % 10) := wkC_cg (v2 5 1 (by omega)) (v2 5 2 (by omega)) _ _ ⟨v2 48 _ (by omega), v2 49 _ (by omega), v2 48 _ (by omega), v2 49 _ (by omega)⟩
      rw [ew, v2 5 0 (by omega), hF2.v 56 i (by omega), hF2.v 57 i (by omega)]
      exact ⟨k1, k2⟩
    refine QOp.ok (e1 wm g1) e4 rfl (⟨⟨(hT9), (hRd2), (hRu2), hFo.mono (fun c k hc => q c k (by omega)), hHa.mono (fun c k hc => q c k (by omega))⟩, ⟨(hP), hPf.mono (fun c k hc => q c k (by omega)), hAp.mono (fun c k hc => q c k (by omega)), (hW)⟩, ⟨hAs.mono (fun c k hc => q c k (by omega)), hPa.mono (fun c k hc => q c k (by omega)), hCl.mono (fun c k hc => q c k (by omega)), hDi.mono (fun c k hc => q c k (by omega)), hBi.mono (fun c k hc => q c k (by omega)), hCn.mono (fun c k hc => q c k (by omega))⟩, ⟨hTe.mono (fun c k hc => q c k (by omega)), hBe.mono (fun c k hc => q c k (by omega)), hNo.mono (fun c k hc => q c k (by omega)), hPo.mono (fun c k hc => q c k (by omega)) (by rw [hF2.2.2, hFm.2.2])⟩⟩) ?_
    rcases hE with hE | hE
    · exact Or.inl fun j hj => by rw [vI_of (q 83 j (by omega))]; exact hE j hj
    · refine EK.of fun c k hc => ?_
      by_cases e : c = 99
      · rw [e]; exact hE k
      · exact q c k (by unfold EvD at hc; omega)
  have hr0 := hRu
  obtain ⟨r0, r1, r2, r3, r4, r5, r6⟩ := hr0
  have y0 := r0 0 (by omega)
  have y1 := r0 1 (by omega)
  have y2 := r0 2 (by omega)
  have tmO : ∀ wm : qM, Fr (fun c k => c = 3 ∧ 1 ≤ k ∧ k ≤ 5 ∨ c = 5 ∧ k < 6 ∨ c = 6 ∨ c = 56 ∨ c = 57 ∨ c = 1 ∧ k = 1) m wm → TM (openM wm) (fun k => vI m 2 k) n ∧ vI (openM wm) 98 12 = 0 ∧ vI (openM wm) 98 15 = 0 ∧ Fr (fun c k => c = 98 ∧ 12 ≤ k ∧ k ≤ 15) wm (openM wm) := fun wm hF => by
    have hw12 : vI wm 98 12 = n := by rw [hF.v 98 12 (by omega)]; exact hn12
    obtain ⟨o2, o3, o4, o5⟩ := openM_f wm n hw12
    refine ⟨⟨o2, by omega, fun k hk => ?_⟩, o3, ?_, ?_⟩
    · have h4 := t4 k hk
      have h5 := t5 k hk
      have hb := byte_v hT k hk
      rw [vI_of (o4 110 k (by omega)), o4 110 k (by omega), hF.v 110 k (by omega), hF.1 110 k (by omega), ← h4, gIv 2]
      refine ⟨rfl, ?_⟩
      show 0 ≤ vI m 2 k ∧ vI m 2 k ≤ 255 ∧ (vI m 110 k = vI m 2 k ∨ 128 ≤ vI m 2 k ∧ vI m 110 k = vI m 2 k - 256)
      rw [hb]
      split
      · exact ⟨by omega, by omega, Or.inr ⟨by omega, by omega⟩⟩
      · exact ⟨by omega, by omega, Or.inl rfl⟩
    · unfold openM
      rw [vI_eq (by omega), if_pos rfl]
    · unfold openM
      exact (((Fr.rf wm).wI 98 13 _ (by omega)).wI 98 12 _ (by omega)).wI 98 15 _ (by omega)
  cases hx : fixB m
  · have hu := unfixed hx hBe
    have hdone := (hBe.2.2 hu.1).2
    have hTC : TC m (fun k => vI m 2 k) n := ⟨hn, by omega, fun k hk => ⟨rfl, by
      have h5 := t5 k hk
      have hb := byte_v hT k hk
      show 0 ≤ vI m 2 k ∧ vI m 2 k ≤ 255
      rw [hb]
      split <;> omega⟩⟩
    obtain ⟨ok, x, fk, fp, V, c1, c2, hC, hM⟩ := rulesLoop (fun k => vI m 2 k) n (by omega) n 0 (fun _ => false) dfR (by omega) (by omega) RB_df
    have ct0 : fb_ct (fun _ => false) 6 = 0 := fb_ct_zero.mpr fun _ _ => rfl
    rw [ct0] at hC hM
    obtain ⟨y, w1, e1, hy, hF1, ho, hb⟩ : wp (fX7_takeText m) (fun y w1 => y = Zi x ∧ Fr (fun c k => c = 3 ∧ 1 ≤ k ∧ k ≤ 5 ∨ c = 5 ∧ k < 6 ∨ c = 6) m w1 ∧ (ok = true → (∀ k, k < 6 → vI w1 5 k = V k) ∧ vI w1 3 4 = 0 ∧ vI w1 3 5 = -1) ∧ (ok = false → (∀ k, gI w1 5 k = gI m 5 k) ∧ vI w1 3 4 = fk ∧ vI w1 3 5 = fp)) := by
      rw [fX7_takeText_d]
      show wp (fX7_takeText_0 m) _
      rw [fX7_takeText_0]
      refine draftC m _ (fun w hF h6 h3 h4 h5 => ?_) 6 0 FU m (by omega) (by rw [FU_d]; omega) (Fr.rf m) (fun j hj => by omega)
      obtain ⟨y, w1, e1, hy, hF1, ho, hb⟩ := hC FU 0 w (by rw [FU_d]; omega) (hTC.mono fun c k hc => hF.1 c k (by omega)) h3 (fun k hk => by
        show bt 0 k = false
        exact (by decide +kernel : ∀ k, k < 6 → bt 0 k = false) k hk) h6
      refine ⟨y, w1, e1, hy, (hF.wide fun c k hc => by omega).tr hF1, fun h => ⟨(ho h).1, ?_, ?_⟩, fun h => ⟨fun k => ?_, (hb h).2⟩⟩
      · rw [vI_of (ho h).2.1]; exact h4
      · rw [vI_of (ho h).2.2]; exact h5
      · rw [(hb h).1 k, hF.1 5 k (by omega)]
    subst hy
    have rng : (1 ≤ vI w1 5 0 ∧ vI w1 5 0 ≤ 30) ∧ (0 ≤ vI w1 5 1 ∧ vI w1 5 1 ≤ 20) ∧ (0 ≤ vI w1 5 2 ∧ vI w1 5 2 ≤ 20) := by
      cases hok : ok
      · have h5 := (hb hok).1
        rw [vI_of (h5 0), vI_of (h5 1), vI_of (h5 2)]
        omega
      · have h5 := (ho hok).1
        have hV := (c1 hok).1
        rw [h5 0 (by omega), h5 1 (by omega), h5 2 (by omega)]
        exact ⟨hV 0 (by omega), hV 1 (by omega), hV 2 (by omega)⟩
    refine fin x w1 hF1 rng (fun wm g => ?_) (fun wm hFm h5 h34 h35 => ?_)
    · rw [fX11_rules_d]
      simp (disch := omega) only [fX11_rules_0, fX11_rules_10, settled_s m hBe hCn hAs, hx, show bI false = 0 from rfl, qbI_s, qbL_s, qbV_s, qbR_s, qbR_n, qbN_s, qbN_n, qbIX_s, qbIX_n, qbVX_s, qbVX_n, cond_true, cond_false, cond_dec, jadd, jsub, jmul, jneg, li_0, li_1, li_2, li_3, li_4, li_5, li_6, li_7, li_8, li_9, li_10, li_14, li_15, li_16, li_19, li_20, li_24, li_30, li_31, li_32, li_39, li_40, li_48, li_57, li_59, li_60, li_63, li_65, li_80, li_81, li_90, li_97, li_99, li_100, li_122, li_126, li_127, li_150, li_160, li_200, li_225, li_255, li_400, li_799, li_800, li_999, li_2400, li_3239, li_3240, li_1048575, li_1431655765, li_858993459, li_252645135, eqb_j, ltb_j, leb_j, inb_j, ix_j, ix_n, nz_b, nz_0, nz_1, eqb_b, bnot, vI_ne, vI_eq, gIL, gLI, gIR, gRI, gLR, gRL, Int.reduceLT, Int.reduceLE, Int.reduceEq, Int.reduceAdd, Int.reduceSub, Int.reduceMul, Int.reduceNeg, Int.reduceToNat, Nat.reduceEqDiff, reduceIte, if_neg, if_pos, gI_ne, e1, cut0, g]
    · obtain ⟨o1, o2, o3, o4⟩ := tmO wm hFm
      have hfix : fX13_isFixed (openM wm) = some (Zi (bI (fixB m)), openM wm) := by
        have qo : ∀ c k, ¬ (c = 3 ∧ 1 ≤ k ∧ k ≤ 5 ∨ c = 5 ∧ k < 6 ∨ c = 6 ∨ c = 56 ∨ c = 57 ∨ c = 1 ∧ k = 1 ∨ c = 98 ∧ 12 ≤ k ∧ k ≤ 15) → gI (openM wm) c k = gI m c k := fun c k hc => by rw [o4.1 c k (by omega), hFm.1 c k (by omega)]
        rw [fixed_s (openM wm) (hBe.mono fun c k hc => qo c k (by omega)) (hAs.mono fun c k hc => qo c k (by omega)), fixB_mono fun c k hc => qo c k (by omega)]
      rw [hx] at hfix
      obtain ⟨z5, hz5⟩ : ∃ z5 : qM, z5 = sI (sI (openM wm) 98 18 (Zi 0)) 98 19 (Zi (-1)) := ⟨_, rfl⟩
      have z18 : vI z5 98 18 = 0 := by rw [hz5, vI_nk (by omega), vI_eq (by omega), if_pos rfl]
      have z19 : vI z5 98 19 = -1 := by rw [hz5, vI_eq (by omega), if_pos rfl]
      have zF : Fr (fun c k => c = 98 ∧ 12 ≤ k ∧ k ≤ 19) wm z5 := by
        rw [hz5]
        exact ((o4.wide fun c k hc => by omega).wI 98 18 _ (by omega)).wI 98 19 _ (by omega)
      have z12 : vI z5 98 12 = 0 := by rw [hz5, vI_nk (by omega), vI_nk (by omega)]; exact o2
      obtain ⟨xs, v0, es, hM0, hFs⟩ := MT.of (v := z5) (d := fun k => vI m 2 k) (n := n) (p := 0) (o1.mono fun c k hc => by rw [hz5, gI_sI, if_neg (by omega), gI_sI, if_neg (by omega)]) (by rw [hz5, vI_nk (by omega), vI_nk (by omega)]; exact o3) (Nat.zero_le _)
      obtain ⟨y, v9, e9, hy9, hF9, ho9, hb9⟩ : wp (fX13_readRules v0) (fun y v9 => y = (if ok = true then some (Zi x) else none) ∧ Fr (fun c k => c = 98 ∧ 14 ≤ k ∧ k ≤ 19 ∨ c = 100 ∨ c = 111) v0 v9 ∧ (ok = true → (∀ k, k < 6 → vI v9 100 k = V k) ∧ gI v9 98 18 = gI v0 98 18 ∧ gI v9 98 19 = gI v0 98 19) ∧ (ok = false → vI v9 98 18 = fk ∧ vI v9 98 19 = fp)) := by
        rw [fX13_readRules_d]
        simp (disch := omega) only [fX13_readRules_0, qbI_s, qbL_s, qbV_s, qbR_s, qbR_n, qbN_s, qbN_n, qbIX_s, qbIX_n, qbVX_s, qbVX_n, cond_true, cond_false, cond_dec, jadd, jsub, jmul, jneg, li_0, li_1, li_2, li_3, li_4, li_5, li_6, li_7, li_8, li_9, li_10, li_14, li_15, li_16, li_19, li_20, li_24, li_30, li_31, li_32, li_39, li_40, li_48, li_57, li_59, li_60, li_63, li_65, li_80, li_81, li_90, li_97, li_99, li_100, li_122, li_126, li_127, li_150, li_160, li_200, li_225, li_255, li_400, li_799, li_800, li_999, li_2400, li_3239, li_3240, li_1048575, li_1431655765, li_858993459, li_252645135, eqb_j, ltb_j, leb_j, inb_j, ix_j, ix_n, nz_b, nz_0, nz_1, eqb_b, bnot, vI_ne, vI_eq, gIL, gLI, gIR, gRI, gLR, gRL, Int.reduceLT, Int.reduceLE, Int.reduceEq, Int.reduceAdd, Int.reduceSub, Int.reduceMul, Int.reduceNeg, Int.reduceToNat, Nat.reduceEqDiff, reduceIte, if_neg, if_pos, gI_ne]
        refine freshM _ _ (fun w hF h111 => ?_) 6 0 FU _ (by omega) (by rw [FU_d]; omega) (Fr.rf _) (fun j hj => by omega)
        have w100 : ∀ c k, ¬ (c = 100 ∨ c = 111) → gI w c k = gI v0 c k := fun c k hc => by
          rw [hF.1 c k (by omega), gI_ne (by omega), gI_ne (by omega), gI_ne (by omega), gI_ne (by omega), gI_ne (by omega), gI_ne (by omega)]
        obtain ⟨y, v9, e9, hy9, hF9, ho9, hb9⟩ := hM FU w (by rw [FU_d]; omega) (hM0.mono fun c k hc => w100 c k (by omega)) (fun k hk => h111 k hk) (fun k hk => by
          rw [hF.v 100 k (by omega)]
          obtain rfl | rfl | rfl | rfl | rfl | rfl : k = 0 ∨ k = 1 ∨ k = 2 ∨ k = 3 ∨ k = 4 ∨ k = 5 := by omega
          all_goals
            simp (disch := omega) only [qbI_s, qbL_s, qbV_s, qbR_s, qbR_n, qbN_s, qbN_n, qbIX_s, qbIX_n, qbVX_s, qbVX_n, cond_true, cond_false, cond_dec, jadd, jsub, jmul, jneg, li_0, li_1, li_2, li_3, li_4, li_5, li_6, li_7, li_8, li_9, li_10, li_14, li_15, li_16, li_19, li_20, li_24, li_30, li_31, li_32, li_39, li_40, li_48, li_57, li_59, li_60, li_63, li_65, li_80, li_81, li_90, li_97, li_99, li_100, li_122, li_126, li_127, li_150, li_160, li_200, li_225, li_255, li_400, li_799, li_800, li_999, li_2400, li_3239, li_3240, li_1048575, li_1431655765, li_858993459, li_252645135, eqb_j, ltb_j, leb_j, inb_j, ix_j, ix_n, nz_b, nz_0, nz_1, eqb_b, bnot, vI_ne, vI_eq, gIL, gLI, gIR, gRI, gLR, gRL, Int.reduceLT, Int.reduceLE, Int.reduceEq, Int.reduceAdd, Int.reduceSub, Int.reduceMul, Int.reduceNeg, Int.reduceToNat, Nat.reduceEqDiff, reduceIte, if_neg, if_pos, gI_ne]
            rfl)
        refine ⟨y, v9, e9, hy9, ⟨fun c k hc => by rw [hF9.1 c k (by omega), w100 c k (by omega)], ?_, ?_⟩, fun h => ⟨(ho9 h).1, by rw [(ho9 h).2.1, w100 98 18 (by omega)], by rw [(ho9 h).2.2, w100 98 19 (by omega)]⟩, hb9⟩
        · rw [hF9.2.1, hF.2.1]
          simp only [gL_sI]
        · rw [hF9.2.2, hF.2.2]
          simp only [gR_sI]
      have F09 : Fr (fun c k => c = 98 ∧ 12 ≤ k ∧ k ≤ 19 ∨ c = 100 ∨ c = 111) wm v9 := ((zF.wide fun c k hc => by omega).tr (hFs.wide fun c k hc => by omega)).tr (hF9.wide fun c k hc => by omega)
      have v12 : vI v9 98 12 = 0 := by rw [hF9.v 98 12 (by omega), hFs.v 98 12 (by omega), z12]
      cases hok : ok
      · have h5' := (hb hok).1
        obtain ⟨b1, b2⟩ := hb9 hok
        have c34 := (hb hok).2
        rw [hok, if_neg (by decide)] at hy9
        subst hy9
        have hx1 := c2 hok
        subst hx1
        refine ⟨v9, ?_, F09.wide fun c k hc => by omega, v12, ⟨gI_of ?_, gI_of ?_⟩, hRu.mono fun c k hc => ?_, Or.inl hdone⟩
        · rw [fX13_rules_d]
          simp (disch := omega) only [fX13_rules_0, open_M, hfix, show bI false = 0 from rfl, qbI_s, qbL_s, qbV_s, qbR_s, qbR_n, qbN_s, qbN_n, qbIX_s, qbIX_n, qbVX_s, qbVX_n, cond_true, cond_false, cond_dec, jadd, jsub, jmul, jneg, li_0, li_1, li_2, li_3, li_4, li_5, li_6, li_7, li_8, li_9, li_10, li_14, li_15, li_16, li_19, li_20, li_24, li_30, li_31, li_32, li_39, li_40, li_48, li_57, li_59, li_60, li_63, li_65, li_80, li_81, li_90, li_97, li_99, li_100, li_122, li_126, li_127, li_150, li_160, li_200, li_225, li_255, li_400, li_799, li_800, li_999, li_2400, li_3239, li_3240, li_1048575, li_1431655765, li_858993459, li_252645135, eqb_j, ltb_j, leb_j, inb_j, ix_j, ix_n, nz_b, nz_0, nz_1, eqb_b, bnot, vI_ne, vI_eq, gIL, gLI, gIR, gRI, gLR, gRL, Int.reduceLT, Int.reduceLE, Int.reduceEq, Int.reduceAdd, Int.reduceSub, Int.reduceMul, Int.reduceNeg, Int.reduceToNat, Nat.reduceEqDiff, reduceIte, if_neg, if_pos, gI_ne, ← hz5, es, e9, show (-1 : Int32) = Zi (-1) from rfl]
        · rw [F09.v 3 4 (by omega), vI_of h34, c34.1, b1]
        · rw [F09.v 3 5 (by omega), vI_of h35, c34.2, b2]
        · by_cases e : c = 5 ∧ k < 6
          · obtain ⟨rfl, e⟩ := e
            rw [F09.1 5 k (by omega)]
            refine gI_of ?_
            rw [h5 k e]
            exact vI_of (h5' k)
          · rw [F09.1 c k (by omega), hFm.1 c k (by omega)]
      · obtain ⟨b0, b1, b2⟩ := ho9 hok
        obtain ⟨a0, a1, a2⟩ := ho hok
        have hV := (c1 hok).1
        rw [hok, if_pos rfl] at hy9
        subst hy9
        obtain ⟨y8, m2, e8, hy8, hF8, h99⟩ := copyM v9 (Zi x) 6 0 FU v9 (by omega) (by rw [FU_d]; omega) (Fr.rf _) (fun j hj => by omega)
        subst hy8
        have r99 : ∀ k, k < 6 → vI m2 99 k = V k := fun k hk => by rw [h99 k hk, b0 k hk]
        refine ⟨m2, ?_, (F09.wide fun c k hc => by omega).tr (hF8.wide fun c k hc => by omega), by rw [hF8.v 98 12 (by omega), v12], ⟨gI_of ?_, gI_of ?_⟩, ⟨fun k hk => ?_, ?_⟩, Or.inl hdone⟩
        · rw [fX13_rules_d]
          simp (disch := omega) only [fX13_rules_0, open_M, hfix, show bI false = 0 from rfl, qbI_s, qbL_s, qbV_s, qbR_s, qbR_n, qbN_s, qbN_n, qbIX_s, qbIX_n, qbVX_s, qbVX_n, cond_true, cond_false, cond_dec, jadd, jsub, jmul, jneg, li_0, li_1, li_2, li_3, li_4, li_5, li_6, li_7, li_8, li_9, li_10, li_14, li_15, li_16, li_19, li_20, li_24, li_30, li_31, li_32, li_39, li_40, li_48, li_57, li_59, li_60, li_63, li_65, li_80, li_81, li_90, li_97, li_99, li_100, li_122, li_126, li_127, li_150, li_160, li_200, li_225, li_255, li_400, li_799, li_800, li_999, li_2400, li_3239, li_3240, li_1048575, li_1431655765, li_858993459, li_252645135, eqb_j, ltb_j, leb_j, inb_j, ix_j, ix_n, nz_b, nz_0, nz_1, eqb_b, bnot, vI_ne, vI_eq, gIL, gLI, gIR, gRI, gLR, gRL, Int.reduceLT, Int.reduceLE, Int.reduceEq, Int.reduceAdd, Int.reduceSub, Int.reduceMul, Int.reduceNeg, Int.reduceToNat, Nat.reduceEqDiff, reduceIte, if_neg, if_pos, gI_ne, ← hz5, es, e9, show (-1 : Int32) = Zi (-1) from rfl]
          exact e8
        · rw [hF8.v 3 4 (by omega), F09.v 3 4 (by omega), vI_of h34, a1, hF8.v 98 18 (by omega), vI_of b1, hFs.v 98 18 (by omega), z18]
        · rw [hF8.v 3 5 (by omega), F09.v 3 5 (by omega), vI_of h35, a2, hF8.v 98 19 (by omega), vI_of b2, hFs.v 98 19 (by omega), z19]
        · rw [hF8.v 5 k (by omega), F09.v 5 k (by omega), h5 k hk, a0 k hk, r99 k hk]
        · rw [r99 0 (by omega), r99 1 (by omega), r99 2 (by omega), r99 3 (by omega), r99 4 (by omega), r99 5 (by omega)]
          exact ⟨hV 0 (by omega), hV 1 (by omega), hV 2 (by omega), hV 3 (by omega), hV 4 (by omega), hV 5 (by omega)⟩
  · refine fin (-4) m (Fr.rf m) (by omega) (fun wm g => ?_) (fun wm hFm h5 h34 h35 => ?_)
    · rw [fX11_rules_d]
      simp (disch := omega) only [fX11_rules_0, fX11_rules_10, settled_s m hBe hCn hAs, hx, show bI true = 1 from rfl, qbI_s, qbL_s, qbV_s, qbR_s, qbR_n, qbN_s, qbN_n, qbIX_s, qbIX_n, qbVX_s, qbVX_n, cond_true, cond_false, cond_dec, jadd, jsub, jmul, jneg, li_0, li_1, li_2, li_3, li_4, li_5, li_6, li_7, li_8, li_9, li_10, li_14, li_15, li_16, li_19, li_20, li_24, li_30, li_31, li_32, li_39, li_40, li_48, li_57, li_59, li_60, li_63, li_65, li_80, li_81, li_90, li_97, li_99, li_100, li_122, li_126, li_127, li_150, li_160, li_200, li_225, li_255, li_400, li_799, li_800, li_999, li_2400, li_3239, li_3240, li_1048575, li_1431655765, li_858993459, li_252645135, eqb_j, ltb_j, leb_j, inb_j, ix_j, ix_n, nz_b, nz_0, nz_1, eqb_b, bnot, vI_ne, vI_eq, gIL, gLI, gIR, gRI, gLR, gRL, Int.reduceLT, Int.reduceLE, Int.reduceEq, Int.reduceAdd, Int.reduceSub, Int.reduceMul, Int.reduceNeg, Int.reduceToNat, Nat.reduceEqDiff, reduceIte, if_neg, if_pos, gI_ne, cut0, g, show (-4 : Int32) = Zi (-4) from rfl]
    · obtain ⟨o1, o2, o3, o4⟩ := tmO wm hFm
      have hfix : fX13_isFixed (openM wm) = some (Zi (bI (fixB m)), openM wm) := by
        have qo : ∀ c k, ¬ (c = 3 ∧ 1 ≤ k ∧ k ≤ 5 ∨ c = 5 ∧ k < 6 ∨ c = 6 ∨ c = 56 ∨ c = 57 ∨ c = 1 ∧ k = 1 ∨ c = 98 ∧ 12 ≤ k ∧ k ≤ 15) → gI (openM wm) c k = gI m c k := fun c k hc => by rw [o4.1 c k (by omega), hFm.1 c k (by omega)]
        rw [fixed_s (openM wm) (hBe.mono fun c k hc => qo c k (by omega)) (hAs.mono fun c k hc => qo c k (by omega)), fixB_mono fun c k hc => qo c k (by omega)]
      rw [hx] at hfix
      have qa : ∀ c k, c = 5 ∨ c = 99 → gI (openM wm) c k = gI m c k := fun c k hc => by
        rw [o4.1 c k (by omega)]
        by_cases e : c = 5 ∧ k < 6
        · obtain ⟨rfl, e⟩ := e
          exact gI_of (h5 k e)
        · rw [hFm.1 c k (by omega)]
      refine ⟨openM wm, ?_, o4.wide fun c k hc => by omega, o2, ⟨?_, ?_⟩, hRu.mono qa, Or.inr fun k => qa 99 k (Or.inr rfl)⟩
      · rw [fX13_rules_d]
        simp (disch := omega) only [fX13_rules_0, open_M, hfix, show bI true = 1 from rfl, qbI_s, qbL_s, qbV_s, qbR_s, qbR_n, qbN_s, qbN_n, qbIX_s, qbIX_n, qbVX_s, qbVX_n, cond_true, cond_false, cond_dec, jadd, jsub, jmul, jneg, li_0, li_1, li_2, li_3, li_4, li_5, li_6, li_7, li_8, li_9, li_10, li_14, li_15, li_16, li_19, li_20, li_24, li_30, li_31, li_32, li_39, li_40, li_48, li_57, li_59, li_60, li_63, li_65, li_80, li_81, li_90, li_97, li_99, li_100, li_122, li_126, li_127, li_150, li_160, li_200, li_225, li_255, li_400, li_799, li_800, li_999, li_2400, li_3239, li_3240, li_1048575, li_1431655765, li_858993459, li_252645135, eqb_j, ltb_j, leb_j, inb_j, ix_j, ix_n, nz_b, nz_0, nz_1, eqb_b, bnot, vI_ne, vI_eq, gIL, gLI, gIR, gRI, gLR, gRL, Int.reduceLT, Int.reduceLE, Int.reduceEq, Int.reduceAdd, Int.reduceSub, Int.reduceMul, Int.reduceNeg, Int.reduceToNat, Nat.reduceEqDiff, reduceIte, if_neg, if_pos, gI_ne, show (-4 : Int32) = Zi (-4) from rfl]
      · rw [o4.1 3 4 (by omega), h34, o4.1 98 18 (by omega), hFm.1 98 18 (by omega)]
        exact hRd.1
      · rw [o4.1 3 5 (by omega), h35, o4.1 98 19 (by omega), hFm.1 98 19 (by omega)]
        exact hRd.2
