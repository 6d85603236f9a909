/-! policies: the operation -/
theorem RPolL.mono {m m' : qM} {q p : Nat} (h : RPolL m q p) (h1 : ∀ c k, q ≤ c → c ≤ q + 6 → gI m' c k = gI m c k) (h2 : gI m' 101 p = gI m 101 p) (h3 : ∀ c k, 102 ≤ c → c ≤ 104 → 8 * p ≤ k → k < 8 * p + 8 → gI m' c k = gI m c k) (h4 : ∀ c k, 105 ≤ c → c ≤ 107 → 32 * p ≤ k → k < 32 * p + 32 → gI m' c k = gI m c k) : RPolL m' q p := by
  obtain ⟨a1, a2, a3, a4⟩ := h
  refine ⟨by rw [vI_of (h1 q 6 (by omega) (by omega)), vI_of h2]; exact a1, by rw [vI_of h2]; exact a2, by rw [vI_of h2]; exact a3, fun l hl => ?_⟩
  rw [vI_of h2] at hl
  obtain ⟨b1, b2, b3, b4⟩ := a4 l hl
  have l8 : l < 8 := by omega
  rw [vI_of (h1 (q + 1) l (by omega) (by omega)), vI_of (h1 (q + 5) l (by omega) (by omega)), vI_of (h1 (q + 6) l (by omega) (by omega)), vI_of (h3 104 (8 * p + l) (by omega) (by omega) (by omega) (by omega)), vI_of (h3 102 (8 * p + l) (by omega) (by omega) (by omega) (by omega)), vI_of (h3 103 (8 * p + l) (by omega) (by omega) (by omega) (by omega))]
  refine ⟨b1, b2, b3, fun c hc => ?_⟩
  have c4 : c < 4 := by omega
  rw [vI_of (h1 (q + 2) (4 * l + c) (by omega) (by omega)), vI_of (h1 (q + 3) (4 * l + c) (by omega) (by omega)), vI_of (h1 (q + 4) (4 * l + c) (by omega) (by omega)), vI_of (h4 105 (4 * (8 * p + l) + c) (by omega) (by omega) (by omega) (by omega)), vI_of (h4 106 (4 * (8 * p + l) + c) (by omega) (by omega) (by omega) (by omega)), vI_of (h4 107 (4 * (8 * p + l) + c) (by omega) (by omega) (by omega) (by omega))]
  exact b4 c hc
theorem polC_far {a b : Nat} (ha : polC a) (hb : polC b) (h : a ≠ b) : a + 6 < b ∨ b + 6 < a := by
  unfold polC at ha hb
  omega
theorem pol_q {a : Nat} (h : polC a) : qpol a = true ∧ 9 ≤ a ∧ a ≤ 40 := by
  unfold polC at h
  rcases h with rfl | rfl | rfl | rfl | rfl <;> exact ⟨rfl, by omega, by omega⟩
theorem openM_F (wm : qM) : Fr (fun c k => c = 98 ∧ 12 ≤ k ∧ k ≤ 15) wm (openM wm) := by
  unfold openM
  exact (((Fr.rf wm).wI 98 13 _ (by omega)).wI 98 12 _ (by omega)).wI 98 15 _ (by omega)
theorem openM_T {m : qM} (hT : RTape m) (n : Nat) (hn : vI m 1 1 = n) (wm : qM) (q : ∀ c k, 47 ≤ c → gI wm c k = gI m c k) : TM (openM wm) (fun k => vI m 2 k) n ∧ vI (openM wm) 98 12 = 0 ∧ vI (openM wm) 98 15 = 0 := by
  obtain ⟨t1, t2, t3, t4, t5⟩ := hT
  have hT : RTape m := ⟨t1, t2, t3, t4, t5⟩
  have hw12 : vI wm 98 12 = n := by rw [vI_of (q 98 12 (by omega)), t3, hn]
  obtain ⟨o2, o3, o4, o5⟩ := openM_f wm n hw12
  refine ⟨⟨o2, by omega, fun k hk => ?_⟩, o3, ?_⟩
  · have h4 := t4 k hk
    have h5 := t5 k hk
    have hb := byte_v hT k hk
    rw [vI_of (o4 110 k (by omega)), o4 110 k (by omega), vI_of (q 110 k (by omega)), q 110 k (by omega), ← h4, gIv 2]
    refine ⟨rfl, ?_⟩
    show 0 ≤ vI m 2 k ∧ vI m 2 k ≤ 255 ∧ (vI m 110 k = vI m 2 k ∨ 128 ≤ vI m 2 k ∧ vI m 110 k = vI m 2 k - 256)
    rw [hb]
    split
    · exact ⟨by omega, by omega, Or.inr ⟨by omega, by omega⟩⟩
    · exact ⟨by omega, by omega, Or.inl rfl⟩
  · unfold openM
    rw [vI_eq (by omega), if_pos rfl]
theorem cut0_s (w : qM) : fX8_cut (Zi 0) w = some ((), sI w 1 1 (Zi 0)) := by
  have hv := vI_r w 1 1
  rw [cut_s 0 w (by omega), show max 0 (min 0 (vI w 1 1)) = 0 by omega]
theorem readPol_s (v : qM) : fX13_readPolicy v = fX13_readPolicy_5 FU (sI v 101 4 (Zi 0)) := by
  rw [fX13_readPolicy_d]
  simp (disch := omega) only [fX13_readPolicy_0, qbI_s, qbL_s, qbV_s, qbR_s, qbR_n, qbN_s, qbN_n, qbIX_s, qbIX_n, qbVX_s, qbVX_n, cond_true, cond_false, cond_dec, jadd, jsub, jmul, jneg, li_0, li_1, li_2, li_3, li_4, li_5, li_6, li_7, li_8, li_9, li_10, li_14, li_15, li_16, li_19, li_20, li_24, li_30, li_31, li_32, li_39, li_40, li_48, li_57, li_59, li_60, li_63, li_65, li_80, li_81, li_90, li_97, li_99, li_100, li_122, li_126, li_127, li_150, li_160, li_200, li_225, li_255, li_400, li_799, li_800, li_999, li_2400, li_3239, li_3240, li_1048575, li_1431655765, li_858993459, li_252645135, eqb_j, ltb_j, leb_j, inb_j, ix_j, ix_n, nz_b, nz_0, nz_1, eqb_b, bnot, vI_ne, vI_eq, gIL, gLI, gIR, gRI, gLR, gRL, Int.reduceLT, Int.reduceLE, Int.reduceEq, Int.reduceAdd, Int.reduceSub, Int.reduceMul, Int.reduceNeg, Int.reduceToNat, Nat.reduceEqDiff, reduceIte, if_neg, if_pos, gI_ne]
theorem takePol_s (q : Nat) (hq : 9 ≤ q ∧ q ≤ 40) (m : qM) : fX5_takeText q m = fX5_takeText_7 q (fX5_takeText_46 q) FU (Zi 0) (sI (sI (sI (sI (sI m q 6 (Zi 0)) 3 2 (Zi 0)) 3 3 (Zi 0)) 3 4 (Zi 0)) 3 5 (Zi (-1))) := by
  rw [fX5_takeText_d]
  show fX5_takeText_0 q m = _
  rw [fX5_takeText_0]
  simp (disch := omega) only [fX6_open_d, fX6_open_0, qbI_s, qbL_s, qbV_s, qbR_s, qbR_n, qbN_s, qbN_n, qbIX_s, qbIX_n, qbVX_s, qbVX_n, cond_true, cond_false, cond_dec, jadd, jsub, jmul, jneg, li_0, li_1, li_2, li_3, li_4, li_5, li_6, li_7, li_8, li_9, li_10, li_14, li_15, li_16, li_19, li_20, li_24, li_30, li_31, li_32, li_39, li_40, li_48, li_57, li_59, li_60, li_63, li_65, li_80, li_81, li_90, li_97, li_99, li_100, li_122, li_126, li_127, li_150, li_160, li_200, li_225, li_255, li_400, li_799, li_800, li_999, li_2400, li_3239, li_3240, li_1048575, li_1431655765, li_858993459, li_252645135, eqb_j, ltb_j, leb_j, inb_j, ix_j, ix_n, nz_b, nz_0, nz_1, eqb_b, bnot, vI_ne, vI_eq, gIL, gLI, gIR, gRI, gLR, gRL, Int.reduceLT, Int.reduceLE, Int.reduceEq, Int.reduceAdd, Int.reduceSub, Int.reduceMul, Int.reduceNeg, Int.reduceToNat, Nat.reduceEqDiff, reduceIte, if_neg, if_pos, gI_ne, show (-1 : Int32) = Zi (-1) from rfl]
theorem op_policy (m : qM) (hR : R0 m) (a : Int) (ha : -2147483648 ≤ a ∧ a < 2147483648) : QOp m (fX11_policy (Zi a)) (fX13_policy (Zi a)) := by
  have hR' := hR
  obtain ⟨⟨hT, hRd, hRu, hFo, hHa⟩, ⟨hPt, hPf, hAp, hWk⟩, ⟨hAs, hPa, hCl, hDi, hBi, hCn⟩, ⟨hTe, hBe, hNo, hPo⟩⟩ := hR'
  obtain ⟨t1, t2, t3, t4, t5⟩ := hT
  have hT : RTape m := ⟨t1, t2, t3, t4, t5⟩
  obtain ⟨n, hn⟩ : ∃ n : Nat, vI m 1 1 = n := ⟨(vI m 1 1).toNat, by omega⟩
  have b1 := hBe.1
  have b2 := hBe.2.1
  -- refused
  have refused : ∀ x : Int, (∀ k : qM, k = sI m 1 1 (Zi 0) → fX11_policy (Zi a) m = some (Zi x, k)) → (∀ k : qM, k = openM (sI m 1 1 (Zi 0)) → fX13_policy (Zi a) (sI m 1 1 (Zi 0)) = some (Zi x, k)) → QOp m (fX11_policy (Zi a)) (fX13_policy (Zi a)) := by
    intro x e1 e2
    obtain ⟨o1, o2, o3⟩ := openM_T hT n hn (sI m 1 1 (Zi 0)) (fun c k hc => gI_ne (by omega))
    have hF := openM_F (sI m 1 1 (Zi 0))
    have q : ∀ c k, ¬ (c = 1 ∧ k = 1 ∨ c = 98 ∧ 12 ≤ k ∧ k ≤ 15) → gI (openM (sI m 1 1 (Zi 0))) c k = gI m c k := fun c k hc => by rw [hF.1 c k (by omega), gI_sI, if_neg (by omega)]
    have hT9 : RTape (openM (sI m 1 1 (Zi 0))) := by
      have v11 : vI (openM (sI m 1 1 (Zi 0))) 1 1 = 0 := by rw [hF.v 1 1 (by omega), vI_eq (by omega), if_pos rfl]
      refine ⟨by omega, by omega, by omega, fun k hk => ?_, fun k hk => ?_⟩
      · rw [q 2 k (by omega), q 110 k (by omega)]
        exact t4 k hk
      · rw [vI_of (q 110 k (by omega))]
        exact t5 k hk
    exact QOp.ok (e1 _ rfl) (e2 _ rfl) rfl (⟨⟨(hT9), hRd.mono (fun c k hc => q c k (by omega)), hRu.mono (fun c k hc => q c k (by omega)), hFo.mono (fun c k hc => q c k (by omega)), hHa.mono (fun c k hc => q c k (by omega))⟩, ⟨hPt.mono (fun c k hc => q c k (by omega)), hPf.mono (fun c k hc => q c k (by omega)), hAp.mono (fun c k hc => q c k (by omega)), hWk.mono (fun c k hc => q c k (by omega))⟩, ⟨hAs.mono (fun c k hc => q c k (by omega)), hPa.mono (fun c k hc => q c k (by omega)), hCl.mono (fun c k hc => q c k (by omega)), hDi.mono (fun c k hc => q c k (by omega)), hBi.mono (fun c k hc => q c k (by omega)), hCn.mono (fun c k hc => q c k (by omega))⟩, ⟨hTe.mono (fun c k hc => q c k (by omega)), hBe.mono (fun c k hc => q c k (by omega)), hNo.mono (fun c k hc => q c k (by omega)), hPo.mono (fun c k hc => q c k (by omega)) (by rw [hF.2.2, gR_sI])⟩⟩) (EK.of fun c k hc => q c k (by unfold EvD at hc; omega))
  by_cases h1 : 0 ≤ a ∧ a ≤ 3
  · by_cases h2 : vI m 98 33 = 0
    · obtain ⟨p, rfl⟩ : ∃ p : Nat, a = p := ⟨a.toNat, by omega⟩
      have hdone := (hBe.2.2 h2).2
      have hPo' := hPo
      obtain ⟨r, r1, r2, r3, r4, r5⟩ := hPo'
      obtain ⟨Q, hQ⟩ : ∃ Q, Q = r 4 := ⟨_, rfl⟩
      obtain ⟨P, hP⟩ : ∃ P, P = r p := ⟨_, rfl⟩
      have cQ : polC Q := by rw [hQ]; exact r1 4 (by omega)
      have cP : polC P := by rw [hP]; exact r1 p (by omega)
      obtain ⟨q1, q2, q3⟩ := pol_q cQ
      obtain ⟨p1, p2, p3⟩ := pol_q cP
      have hTC : TC m (fun k => vI m 2 k) n := ⟨hn, by omega, fun k hk => ⟨rfl, by
        have h5 := t5 k hk
        have hb := byte_v hT k hk
        show 0 ≤ vI m 2 k ∧ vI m 2 k ≤ 255
        rw [hb]
        split <;> omega⟩⟩
      obtain ⟨ok, x, fk, fp, N, A, B, Z, S, T, c1, c2, hC, hM⟩ := linesLoop (fun k => vI m 2 k) n (by omega) n 0 0 (by omega) (by omega) (by omega)
      obtain ⟨w0, hw0⟩ : ∃ w0 : qM, w0 = sI (sI (sI (sI (sI m Q 6 (Zi 0)) 3 2 (Zi 0)) 3 3 (Zi 0)) 3 4 (Zi 0)) 3 5 (Zi (-1)) := ⟨_, rfl⟩
      have F0 : Fr (fun c k => c = 3 ∧ 2 ≤ k ∧ k ≤ 5 ∨ c = Q ∧ k = 6) m w0 := by
        rw [hw0]
        exact (((((Fr.rf m).wI Q 6 _ (by omega)).wI 3 2 _ (by omega)).wI 3 3 _ (by omega)).wI 3 4 _ (by omega)).wI 3 5 _ (by omega)
      have w033 : vI w0 3 3 = 0 := by rw [hw0, vI_nk (by omega), vI_nk (by omega), vI_eq (by omega), if_pos rfl]
      have w034 : vI w0 3 4 = 0 := by rw [hw0, vI_nk (by omega), vI_eq (by omega), if_pos rfl]
      have w035 : vI w0 3 5 = -1 := by rw [hw0, vI_eq (by omega), if_pos rfl]
      obtain ⟨y, w1, e1, hy, hF1, ho, hb⟩ := hC FU Q w0 (by rw [FU_d]; omega) ⟨q2, q3⟩ q1 (hTC.mono fun c k hc => F0.1 c k (by omega)) w033
      subst hy
      have e1' : fX5_takeText Q m = some (Zi x, w1) := by
        rw [takePol_s Q ⟨q2, q3⟩ m, ← hw0]
        exact e1
      have F1 : Fr (fun c k => c = 3 ∧ 1 ≤ k ∧ k ≤ 5 ∨ Q ≤ c ∧ c ≤ Q + 6) m w1 := (F0.wide fun c k h => by omega).tr (hF1.wide fun c k h => by unfold lsF at h; omega)
      have g1 : gR m 7 1 = some Q := by rw [hQ]; exact r4
      have g2 : gR m 8 p = some P := by rw [hP]; exact r3 p (by omega)
      -- the reference, from a world like this one
      have ref : ∀ wm : qM, (∀ c k, 47 ≤ c → gI wm c k = gI m c k) → gR wm = gR wm → ∃ v9, Fr (fun c k => c = 98 ∧ 12 ≤ k ∧ k ≤ 19 ∨ lsG 0 c k) wm v9 ∧ vI v9 98 12 = 0 ∧ (ok = true → vI v9 101 4 = x ∧ (∀ i : Nat, (i : Int) < x → liM (N i) (A i) (B i) (Z i) (S i) (T i) (32 + i) v9) ∧ vI v9 98 18 = 0 ∧ vI v9 98 19 = -1) ∧ (ok = false → vI v9 98 18 = fk ∧ vI v9 98 19 = fp) ∧ fX13_policy (Zi p) wm = if ok = true then fX13_policy_37 FU (Zi p) (Zi x) 0 (sI v9 101 p (Zi x)) else some (Zi (-1), v9) := by
        intro wm hq _
        obtain ⟨o1, o2, o3⟩ := openM_T hT n hn wm hq
        have o4 := openM_F wm
        obtain ⟨z5, hz5⟩ : ∃ z5 : qM, z5 = sI (sI (openM wm) 98 18 (Zi 0)) 98 19 (Zi (-1)) := ⟨_, rfl⟩
        have z18 : vI z5 98 18 = 0 := by rw [hz5, vI_nk (by omega), vI_eq (by omega), if_pos rfl]
        have z19 : vI z5 98 19 = -1 := by rw [hz5, vI_eq (by omega), if_pos rfl]
        have zF : Fr (fun c k => c = 98 ∧ 12 ≤ k ∧ k ≤ 19) wm z5 := by
          rw [hz5]
          exact ((o4.wide fun c k hc => by omega).wI 98 18 _ (by omega)).wI 98 19 _ (by omega)
        obtain ⟨xs, v0, es, hM0, hFs⟩ := MT.of (v := z5) (d := fun k => vI m 2 k) (n := n) (p := 0) (o1.mono fun c k hc => by rw [hz5, gI_sI, if_neg (by omega), gI_sI, if_neg (by omega)]) (by rw [hz5, vI_nk (by omega), vI_nk (by omega)]; exact o3) (Nat.zero_le _)
        obtain ⟨y, v9, e9, hy9, hF9, ho9, hb9⟩ := hM FU (sI v0 101 4 (Zi 0)) (by rw [FU_d]; omega) (hM0.mono fun c k hc => by rw [gI_ne (by omega)]) (by rw [vI_eq (by omega), if_pos rfl]; rfl)
        have F09 : Fr (fun c k => c = 98 ∧ 12 ≤ k ∧ k ≤ 19 ∨ lsG 0 c k) wm v9 := (((zF.wide fun c k hc => Or.inl hc).tr (hFs.wide fun c k hc => by omega)).wI 101 4 _ (by unfold lsG; omega)).tr (hF9.wide fun c k hc => Or.inr hc)
        refine ⟨v9, F09, ?_, fun h => ?_, hb9, ?_⟩
        · rw [hF9.v 98 12 (by unfold lsG; omega), vI_ne (by omega), hFs.v 98 12 (by omega), hz5, vI_nk (by omega), vI_nk (by omega)]
          exact o2
        · obtain ⟨k1, k2, k3, k4⟩ := ho9 h
          exact ⟨k1, fun i hi => k2 i (Nat.zero_le _) hi, by rw [vI_of k3, vI_ne (by omega), hFs.v 98 18 (by omega), z18], by rw [vI_of k4, vI_ne (by omega), hFs.v 98 19 (by omega), z19]⟩
        · have h33 : vI (openM wm) 98 33 = 0 := by rw [o4.v 98 33 (by omega), vI_of (hq 98 33 (by omega))]; exact h2
          have rp : fX13_readPolicy v0 = some (y, v9) := by rw [readPol_s]; exact e9
          rw [fX13_policy_d]
          cases hok : ok
          · rw [hok, if_neg (by decide)] at hy9
            subst hy9
            rw [if_neg (by decide)]
            simp (disch := omega) only [fX13_policy_0, open_M, qbI_s, qbL_s, qbV_s, qbR_s, qbR_n, qbN_s, qbN_n, qbIX_s, qbIX_n, qbVX_s, qbVX_n, cond_true, cond_false, cond_dec, jadd, jsub, jmul, jneg, li_0, li_1, li_2, li_3, li_4, li_5, li_6, li_7, li_8, li_9, li_10, li_14, li_15, li_16, li_19, li_20, li_24, li_30, li_31, li_32, li_39, li_40, li_48, li_57, li_59, li_60, li_63, li_65, li_80, li_81, li_90, li_97, li_99, li_100, li_122, li_126, li_127, li_150, li_160, li_200, li_225, li_255, li_400, li_799, li_800, li_999, li_2400, li_3239, li_3240, li_1048575, li_1431655765, li_858993459, li_252645135, eqb_j, ltb_j, leb_j, inb_j, ix_j, ix_n, nz_b, nz_0, nz_1, eqb_b, bnot, vI_ne, vI_eq, gIL, gLI, gIR, gRI, gLR, gRL, Int.reduceLT, Int.reduceLE, Int.reduceEq, Int.reduceAdd, Int.reduceSub, Int.reduceMul, Int.reduceNeg, Int.reduceToNat, Nat.reduceEqDiff, reduceIte, if_neg, if_pos, gI_ne, ll_0, ll_1, ll_3, ll_5, ll_9, ll_10, ll_13, ll_14, ll_19, ll_20, ll_32, ll_60, ll_126, ll_799, ll_1024, ll_1048576, ll_67108864, Zladd, Zlsub, Zlmul, Zlneg, toL, lg_lt, lg_gt, lg_le, in_s, bI_dec, gIv 98, h33, show (-1 : Int32) = Zi (-1) from rfl, ← hz5, es, rp]
          · rw [hok, if_pos rfl] at hy9
            subst hy9
            rw [if_pos rfl]
            simp (disch := omega) only [fX13_policy_0, open_M, qbI_s, qbL_s, qbV_s, qbR_s, qbR_n, qbN_s, qbN_n, qbIX_s, qbIX_n, qbVX_s, qbVX_n, cond_true, cond_false, cond_dec, jadd, jsub, jmul, jneg, li_0, li_1, li_2, li_3, li_4, li_5, li_6, li_7, li_8, li_9, li_10, li_14, li_15, li_16, li_19, li_20, li_24, li_30, li_31, li_32, li_39, li_40, li_48, li_57, li_59, li_60, li_63, li_65, li_80, li_81, li_90, li_97, li_99, li_100, li_122, li_126, li_127, li_150, li_160, li_200, li_225, li_255, li_400, li_799, li_800, li_999, li_2400, li_3239, li_3240, li_1048575, li_1431655765, li_858993459, li_252645135, eqb_j, ltb_j, leb_j, inb_j, ix_j, ix_n, nz_b, nz_0, nz_1, eqb_b, bnot, vI_ne, vI_eq, gIL, gLI, gIR, gRI, gLR, gRL, Int.reduceLT, Int.reduceLE, Int.reduceEq, Int.reduceAdd, Int.reduceSub, Int.reduceMul, Int.reduceNeg, Int.reduceToNat, Nat.reduceEqDiff, reduceIte, if_neg, if_pos, gI_ne, ll_0, ll_1, ll_3, ll_5, ll_9, ll_10, ll_13, ll_14, ll_19, ll_20, ll_32, ll_60, ll_126, ll_799, ll_1024, ll_1048576, ll_67108864, Zladd, Zlsub, Zlmul, Zlneg, toL, lg_lt, lg_gt, lg_le, in_s, bI_dec, gIv 98, h33, show (-1 : Int32) = Zi (-1) from rfl, ← hz5, es, rp]
      have tape9 : ∀ m2 : qM, (∀ c k, c = 2 ∨ c = 110 → gI m2 c k = gI m c k) → vI m2 1 1 = 0 → vI m2 98 12 = 0 → RTape m2 := by
        intro m2 q v11 v12
        refine ⟨by omega, by omega, by omega, fun k hk => ?_, fun k hk => ?_⟩
        · rw [q 2 k (by omega), q 110 k (by omega)]
          exact t4 k hk
        · rw [vI_of (q 110 k (by omega))]
          exact t5 k hk
      have farQ : ∀ i, i < 4 → r i + 6 < Q ∨ Q + 6 < r i := fun i hi => polC_far (r1 i (by omega)) cQ (fun e => by have := r2 i 4 (by omega) (by omega) (by rw [e, hQ]); omega)
      cases hok : ok
      · -- a fault
        have hx := c2 hok
        subst hx
        have hc : ∀ k : qM, k = sI w1 1 1 (Zi 0) → fX11_policy (Zi p) m = some (Zi (-1), k) := by
          intro k hk
          rw [hk, fX11_policy_d]
          simp (disch := omega) only [fX11_policy_0, fX11_policy_6, fX11_policy_29, fX11_policy_30, pR_s, bI_dec, qbI_s, qbL_s, qbV_s, qbR_s, qbR_n, qbN_s, qbN_n, qbIX_s, qbIX_n, qbVX_s, qbVX_n, cond_true, cond_false, cond_dec, jadd, jsub, jmul, jneg, li_0, li_1, li_2, li_3, li_4, li_5, li_6, li_7, li_8, li_9, li_10, li_14, li_15, li_16, li_19, li_20, li_24, li_30, li_31, li_32, li_39, li_40, li_48, li_57, li_59, li_60, li_63, li_65, li_80, li_81, li_90, li_97, li_99, li_100, li_122, li_126, li_127, li_150, li_160, li_200, li_225, li_255, li_400, li_799, li_800, li_999, li_2400, li_3239, li_3240, li_1048575, li_1431655765, li_858993459, li_252645135, eqb_j, ltb_j, leb_j, inb_j, ix_j, ix_n, nz_b, nz_0, nz_1, eqb_b, bnot, vI_ne, vI_eq, gIL, gLI, gIR, gRI, gLR, gRL, Int.reduceLT, Int.reduceLE, Int.reduceEq, Int.reduceAdd, Int.reduceSub, Int.reduceMul, Int.reduceNeg, Int.reduceToNat, Nat.reduceEqDiff, reduceIte, if_neg, if_pos, gI_ne, gIv 0, b1, h2, fX10_draft_d, fX10_draft_0, g1, q1, e1', show (-1 : Int32) = Zi (-1) from rfl, show (-4 : Int32) = Zi (-4) from rfl, show (-2 : Int32) = Zi (-2) from rfl, fX10_keepDraft_d, fX10_keepDraft_0, fX10_keepDraft_19, cut0_s]
        have qm : ∀ c k, ¬ (c = 1 ∧ k = 1 ∨ c = 3 ∧ 1 ≤ k ∧ k ≤ 5 ∨ Q ≤ c ∧ c ≤ Q + 6) → gI (sI w1 1 1 (Zi 0)) c k = gI m c k := fun c k hc => by rw [gI_sI, if_neg (by omega), F1.1 c k (by omega)]
        obtain ⟨v9, F9, v12, o9, x9, e9⟩ := ref (sI w1 1 1 (Zi 0)) (fun c k hc => qm c k (by omega)) rfl
        rw [hok, if_neg (by decide)] at e9
        have q : ∀ c k, ¬ (c = 1 ∧ k = 1 ∨ c = 3 ∧ 1 ≤ k ∧ k ≤ 5 ∨ Q ≤ c ∧ c ≤ Q + 6 ∨ c = 98 ∧ 12 ≤ k ∧ k ≤ 19 ∨ lsG 0 c k) → gI v9 c k = gI m c k := fun c k hc => by rw [F9.1 c k (by simp only [lsG] at hc ⊢; omega), qm c k (by simp only [lsG] at hc ⊢; omega)]
        have gR9 : gR v9 = gR m := by rw [F9.2.2, gR_sI, F1.2.2]
        have hPo9 : RPol v9 := ⟨r, r1, r2, fun i hi => by rw [gR9]; exact r3 i hi, by rw [gR9]; exact r4, fun i hi => (r5 i hi).mono (fun c k h1 h2 => q c k (by have := farQ i hi; have := pol_q (r1 i (by omega)); unfold lsG; omega)) (q 101 i (by unfold lsG; omega)) (fun c k h1 h2 h3 h4 => q c k (by unfold lsG; omega)) (fun c k h1 h2 h3 h4 => q c k (by unfold lsG; omega))⟩
        have hT9 : RTape v9 := tape9 v9 (fun c k hc => q c k (by unfold lsG; omega)) (by rw [F9.v 1 1 (by unfold lsG; omega), vI_eq (by omega), if_pos rfl]) v12
        have hRd9 : RRead v9 := by
          obtain ⟨k1, k2⟩ := hb hok
          obtain ⟨k3, k4⟩ := x9 hok
          refine ⟨gI_of ?_, gI_of ?_⟩
          · rw [F9.v 3 4 (by unfold lsG; omega), vI_ne (by omega), k1, k3]
          · rw [F9.v 3 5 (by unfold lsG; omega), vI_ne (by omega), k2, k4]
        have q' : ∀ c k, ¬ (c = 1 ∧ k = 1 ∨ c = 3 ∨ 9 ≤ c ∧ c ≤ 46 ∧ Q ≤ c ∧ c ≤ Q + 6 ∨ c = 98 ∧ 12 ≤ k ∧ k ≤ 19 ∨ 101 ≤ c ∧ c ≤ 107) → gI v9 c k = gI m c k := fun c k hc => q c k (by unfold lsG; omega)
        have q18 : polC Q → ∀ c k, (c ≤ 2 ∨ 4 ≤ c ∧ c ≤ 8 ∨ 16 ≤ c ∧ c ≤ 18 ∨ 47 ≤ c) → ¬ (c = 1 ∧ k = 1 ∨ c = 98 ∧ 12 ≤ k ∧ k ≤ 19 ∨ 101 ≤ c ∧ c ≤ 107) → gI v9 c k = gI m c k := fun hq c k h1 h2 => q' c k (by unfold polC at hq; omega)
        have q2' : ∀ c k, ¬ (c = 1 ∧ k = 1 ∨ c = 3 ∨ 9 ≤ c ∧ c ≤ 15 ∨ 19 ≤ c ∧ c ≤ 46 ∨ c = 98 ∧ 12 ≤ k ∧ k ≤ 19 ∨ 101 ≤ c ∧ c ≤ 107) → gI v9 c k = gI m c k := fun c k hc => q18 cQ c k (by omega) (by omega)
        exact QOp.ok (hc _ rfl) e9 rfl (⟨⟨(hT9), (hRd9), hRu.mono (fun c k hc => q2' c k (by omega)), hFo.mono (fun c k hc => q2' c k (by omega)), hHa.mono (fun c k hc => q2' c k (by omega))⟩, ⟨hPt.mono (fun c k hc => q2' c k (by omega)), hPf.mono (fun c k hc => q2' c k (by omega)), hAp.mono (fun c k hc => q2' c k (by omega)), hWk.mono (fun c k hc => q2' c k (by omega))⟩, ⟨hAs.mono (fun c k hc => q2' c k (by omega)), hPa.mono (fun c k hc => q2' c k (by omega)), hCl.mono (fun c k hc => q2' c k (by omega)), hDi.mono (fun c k hc => q2' c k (by omega)), hBi.mono (fun c k hc => q2' c k (by omega)), hCn.mono (fun c k hc => q2' c k (by omega))⟩, ⟨hTe.mono (fun c k hc => q2' c k (by omega)), hBe.mono (fun c k hc => q2' c k (by omega)), hNo.mono (fun c k hc => q2' c k (by omega)), (hPo9)⟩⟩) (Or.inl fun j hj => by rw [vI_of (q2' 83 j (by omega))]; exact hdone j hj)
      · -- read
        obtain ⟨x0, x8, xR⟩ := c1 hok
        obtain ⟨X, hX⟩ : ∃ X : Nat, x = X := ⟨x.toNat, by omega⟩
        subst hX
        obtain ⟨k1, k2, k3, k4⟩ := ho hok
        obtain ⟨wm, hwm⟩ : ∃ wm : qM, wm = sI (sR (sR w1 8 p (some Q)) 7 1 (some P)) 1 1 (Zi 0) := ⟨_, rfl⟩
        have gw1 : gR w1 = gR m := F1.2.2
        have hc : fX11_policy (Zi p) m = some (Zi X, wm) := by
          rw [hwm, fX11_policy_d]
          simp (disch := omega) only [fX11_policy_0, fX11_policy_6, fX11_policy_29, fX11_policy_30, pR_s, bI_dec, qbI_s, qbL_s, qbV_s, qbR_s, qbR_n, qbN_s, qbN_n, qbIX_s, qbIX_n, qbVX_s, qbVX_n, cond_true, cond_false, cond_dec, jadd, jsub, jmul, jneg, li_0, li_1, li_2, li_3, li_4, li_5, li_6, li_7, li_8, li_9, li_10, li_14, li_15, li_16, li_19, li_20, li_24, li_30, li_31, li_32, li_39, li_40, li_48, li_57, li_59, li_60, li_63, li_65, li_80, li_81, li_90, li_97, li_99, li_100, li_122, li_126, li_127, li_150, li_160, li_200, li_225, li_255, li_400, li_799, li_800, li_999, li_2400, li_3239, li_3240, li_1048575, li_1431655765, li_858993459, li_252645135, eqb_j, ltb_j, leb_j, inb_j, ix_j, ix_n, nz_b, nz_0, nz_1, eqb_b, bnot, vI_ne, vI_eq, gIL, gLI, gIR, gRI, gLR, gRL, Int.reduceLT, Int.reduceLE, Int.reduceEq, Int.reduceAdd, Int.reduceSub, Int.reduceMul, Int.reduceNeg, Int.reduceToNat, Nat.reduceEqDiff, reduceIte, if_neg, if_pos, gI_ne, gIv 0, b1, h2, fX10_draft_d, fX10_draft_0, g1, q1, e1', show (-1 : Int32) = Zi (-1) from rfl, show (-4 : Int32) = Zi (-4) from rfl, show (-2 : Int32) = Zi (-2) from rfl, fX10_keepDraft_d, fX10_keepDraft_0, fX10_keepDraft_19, cut0_s, gw1, g2, p1]
        have qm : ∀ c k, ¬ (c = 1 ∧ k = 1 ∨ c = 3 ∧ 1 ≤ k ∧ k ≤ 5 ∨ Q ≤ c ∧ c ≤ Q + 6) → gI wm c k = gI m c k := fun c k hc => by rw [hwm, gI_sI, if_neg (by omega), gI_sR, gI_sR, F1.1 c k (by omega)]
        have gRm : ∀ c k, gR wm c k = if c = 7 ∧ k = 1 then some P else if c = 8 ∧ k = p then some Q else gR m c k := fun c k => by rw [hwm, gR_sI, gR_sR, gR_sR, gw1]
        obtain ⟨v9, F9, v12, o9, x9, e9⟩ := ref wm (fun c k hc => qm c k (by omega)) rfl
        rw [hok, if_pos rfl] at e9
        obtain ⟨a1, a2, a3, a4⟩ := o9 hok
        have F9' : Fr (fun c k => c = 98 ∧ 12 ≤ k ∧ k ≤ 19 ∨ lsG 0 c k ∨ c = 101 ∧ k = p) wm (sI v9 101 p (Zi X)) := (F9.wide fun c k h => by simp only [lsG] at h ⊢; omega).wI 101 p _ (Or.inr (Or.inr ⟨rfl, rfl⟩))
        obtain ⟨y2, m2, e2, hy2, F2, cp⟩ := copyL (sI v9 101 p (Zi X)) p X (by omega) (by omega) X 0 FU (sI v9 101 p (Zi X)) (by omega) (by rw [FU_d]; omega) (Fr.rf _) (fun i' h => by omega)
        subst hy2
        have q : ∀ c k, ¬ (c = 1 ∧ k = 1 ∨ c = 3 ∧ 1 ≤ k ∧ k ≤ 5 ∨ Q ≤ c ∧ c ≤ Q + 6 ∨ c = 98 ∧ 12 ≤ k ∧ k ≤ 19 ∨ lsG 0 c k ∨ c = 101 ∧ k = p ∨ cpG p c k) → gI m2 c k = gI m c k := fun c k hc => by rw [F2.1 c k (by simp only [lsG, cpG] at hc ⊢; omega), F9'.1 c k (by simp only [lsG, cpG] at hc ⊢; omega), qm c k (by simp only [lsG, cpG] at hc ⊢; omega)]
        have gR2 : gR m2 = gR wm := by rw [F2.2.2, F9'.2.2]
        have farP : ∀ i, i < 4 → i ≠ p → r i ≠ P := fun i hi e h => e (r2 i p (by omega) (by omega) (by rw [h, hP]))
        have neQ : ∀ i, i < 4 → r i ≠ Q := fun i hi h => by have := r2 i 4 (by omega) (by omega) (by rw [h, hQ]); omega
        have hPo2 : RPol m2 := by
          refine ⟨fun i => if i = p then Q else if i = 4 then P else r i, fun i hi => ?_, fun i j hi hj e => ?_, fun i hi => ?_, ?_, fun i hi => ?_⟩
          · show polC (if i = p then Q else if i = 4 then P else r i)
            split
            · exact cQ
            · split
              · exact cP
              · exact r1 i hi
          · have e' : (if i = p then Q else if i = 4 then P else r i) = (if j = p then Q else if j = 4 then P else r j) := e
            have hPQ : P ≠ Q := by rw [hP]; exact neQ p (by omega)
            by_cases i1 : i = p
            · rw [if_pos i1] at e'
              by_cases j1 : j = p
              · omega
              · rw [if_neg j1] at e'
                by_cases j4 : j = 4
                · rw [if_pos j4] at e'; exact absurd e'.symm hPQ
                · rw [if_neg j4] at e'; exact absurd e'.symm (neQ j (by omega))
            · rw [if_neg i1] at e'
              by_cases i4 : i = 4
              · rw [if_pos i4] at e'
                by_cases j1 : j = p
                · rw [if_pos j1] at e'; exact absurd e' hPQ
                · rw [if_neg j1] at e'
                  by_cases j4 : j = 4
                  · omega
                  · rw [if_neg j4] at e'; exact absurd e'.symm (farP j (by omega) j1)
              · rw [if_neg i4] at e'
                by_cases j1 : j = p
                · rw [if_pos j1] at e'; exact absurd e' (neQ i (by omega))
                · rw [if_neg j1] at e'
                  by_cases j4 : j = 4
                  · rw [if_pos j4] at e'; exact absurd e' (farP i (by omega) i1)
                  · rw [if_neg j4] at e'
                    exact r2 i j hi hj e'
          · show gR m2 8 i = some (if i = p then Q else if i = 4 then P else r i)
            rw [gR2, gRm, if_neg (by omega)]
            by_cases e : i = p
            · rw [if_pos ⟨rfl, e⟩, if_pos e]
            · rw [if_neg (fun z => e z.2), if_neg e, if_neg (by omega)]
              exact r3 i hi
          · show gR m2 7 1 = some (if 4 = p then Q else if 4 = 4 then P else r 4)
            rw [gR2, gRm, if_pos ⟨rfl, rfl⟩, if_neg (by omega), if_pos rfl]
          · show RPolL m2 (if i = p then Q else if i = 4 then P else r i) i
            by_cases e : i = p
            · rw [if_pos e, e]
              have v101 : vI m2 101 p = X := by rw [F2.v 101 p (by unfold cpG; omega), vI_eq (by omega), if_pos rfl]
              have cl : ∀ c k, Q ≤ c → c ≤ Q + 6 → vI m2 c k = vI w1 c k := fun c k h1 h2 => by
                rw [F2.v c k (by unfold cpG; omega), vI_ne (by omega), F9.v c k (by unfold lsG; omega), hwm, vI_ne (by omega), gIR, gIR]
              refine ⟨by rw [cl Q 6 (by omega) (by omega), v101]; exact k1, by omega, by omega, fun l hl => ?_⟩
              rw [v101] at hl
              obtain ⟨s1, s2, s3, s4⟩ := k2 l (Nat.zero_le _) (by omega)
              obtain ⟨u1, u2, u3, u4⟩ := a2 l (by omega)
              obtain ⟨z1, z2, z3, z4, z5⟩ := xR l (Nat.zero_le _) (by omega)
              obtain ⟨d1, d2, d3, d4⟩ := cp l (by omega)
              rw [vI_ne (by omega)] at d1 d2 d3
              rw [cl (Q + 1) l (by omega) (by omega), cl (Q + 5) l (by omega) (by omega), cl (Q + 6) l (by omega) (by omega), s1, s2, s3, d1, d2, d3, u1, u2, u3]
              refine ⟨⟨rfl, by omega, by omega⟩, ⟨rfl, z2.1, z2.2⟩, ⟨rfl, z3.1, z3.2, z4⟩, fun c hc => ?_⟩
              have hc' : c < N l := by omega
              obtain ⟨s5, s6, s7⟩ := s4 c hc'
              obtain ⟨u5, u6, u7⟩ := u4 c hc'
              obtain ⟨d5, d6, d7⟩ := d4 c (Nat.zero_le _) (by omega)
              obtain ⟨z6, z7, z8⟩ := z5 c (Nat.zero_le _) hc'
              rw [vI_ne (by omega)] at d5 d6 d7
              rw [cl (Q + 2) _ (by omega) (by omega), cl (Q + 3) _ (by omega) (by omega), cl (Q + 4) _ (by omega) (by omega), s5, s6, s7, d5, d6, d7, u5, u6, u7]
              refine ⟨⟨rfl, z6⟩, ?_, ⟨rfl, z8⟩⟩
              unfold cmpV
              rcases (show B l c = 0 ∨ B l c = 1 ∨ B l c = 2 by omega) with h | h | h
              · rw [h]; exact Or.inl ⟨rfl, rfl⟩
              · rw [h]; exact Or.inr (Or.inl ⟨rfl, rfl⟩)
              · rw [h]; exact Or.inr (Or.inr ⟨rfl, rfl⟩)
            · rw [if_neg e, if_neg (by omega)]
              exact (r5 i hi).mono (fun c k h1 h2 => q c k (by have := farQ i hi; have := pol_q (r1 i (by omega)); unfold lsG cpG; omega)) (q 101 i (by unfold lsG cpG; omega)) (fun c k h1 h2 h3 h4 => q c k (by unfold lsG cpG; omega)) (fun c k h1 h2 h3 h4 => q c k (by unfold lsG cpG; omega))
        have hT9 : RTape m2 := tape9 m2 (fun c k hc => q c k (by unfold lsG cpG; omega)) (by rw [F2.v 1 1 (by unfold cpG; omega), F9'.v 1 1 (by unfold lsG; omega), hwm, vI_eq (by omega), if_pos rfl]) (by rw [F2.v 98 12 (by unfold cpG; omega), vI_ne (by omega), v12])
        have hRd9 : RRead m2 := by
          have w34 : vI w1 3 4 = 0 := by rw [vI_of k3, w034]
          have w35 : vI w1 3 5 = -1 := by rw [vI_of k4, w035]
          refine ⟨gI_of ?_, gI_of ?_⟩
          · rw [F2.v 3 4 (by unfold cpG; omega), F9'.v 3 4 (by unfold lsG; omega), hwm, vI_ne (by omega), F2.v 98 18 (by unfold cpG; omega), vI_ne (by omega), a3, vI_of (show gI (sR (sR w1 8 p (some Q)) 7 1 (some P)) 3 4 = gI w1 3 4 by rw [gI_sR, gI_sR]), w34]
          · rw [F2.v 3 5 (by unfold cpG; omega), F9'.v 3 5 (by unfold lsG; omega), hwm, vI_ne (by omega), F2.v 98 19 (by unfold cpG; omega), vI_ne (by omega), a4, vI_of (show gI (sR (sR w1 8 p (some Q)) 7 1 (some P)) 3 5 = gI w1 3 5 by rw [gI_sR, gI_sR]), w35]
        have q2' : ∀ c k, ¬ (c = 1 ∧ k = 1 ∨ c = 3 ∨ 9 ≤ c ∧ c ≤ 15 ∨ 19 ≤ c ∧ c ≤ 46 ∨ c = 98 ∧ 12 ≤ k ∧ k ≤ 19 ∨ 101 ≤ c ∧ c ≤ 107) → gI m2 c k = gI m c k := fun c k hc => q c k (by have hq := cQ; unfold polC at hq; unfold lsG cpG; omega)
        exact QOp.ok hc (e9.trans e2) rfl (⟨⟨(hT9), (hRd9), hRu.mono (fun c k hc => q2' c k (by omega)), hFo.mono (fun c k hc => q2' c k (by omega)), hHa.mono (fun c k hc => q2' c k (by omega))⟩, ⟨hPt.mono (fun c k hc => q2' c k (by omega)), hPf.mono (fun c k hc => q2' c k (by omega)), hAp.mono (fun c k hc => q2' c k (by omega)), hWk.mono (fun c k hc => q2' c k (by omega))⟩, ⟨hAs.mono (fun c k hc => q2' c k (by omega)), hPa.mono (fun c k hc => q2' c k (by omega)), hCl.mono (fun c k hc => q2' c k (by omega)), hDi.mono (fun c k hc => q2' c k (by omega)), hBi.mono (fun c k hc => q2' c k (by omega)), hCn.mono (fun c k hc => q2' c k (by omega))⟩, ⟨hTe.mono (fun c k hc => q2' c k (by omega)), hBe.mono (fun c k hc => q2' c k (by omega)), hNo.mono (fun c k hc => q2' c k (by omega)), (hPo2)⟩⟩) (Or.inl fun j hj => by rw [vI_of (q2' 83 j (by omega))]; exact hdone j hj)
    · refine refused (-4) (fun k hk => ?_) (fun k hk => ?_)
      · rw [hk, fX11_policy_d]
        simp (disch := omega) only [fX11_policy_0, fX11_policy_6, fX11_policy_30, pR_s, bI_dec, qbI_s, qbL_s, qbV_s, qbR_s, qbR_n, qbN_s, qbN_n, qbIX_s, qbIX_n, qbVX_s, qbVX_n, cond_true, cond_false, cond_dec, jadd, jsub, jmul, jneg, li_0, li_1, li_2, li_3, li_4, li_5, li_6, li_7, li_8, li_9, li_10, li_14, li_15, li_16, li_19, li_20, li_24, li_30, li_31, li_32, li_39, li_40, li_48, li_57, li_59, li_60, li_63, li_65, li_80, li_81, li_90, li_97, li_99, li_100, li_122, li_126, li_127, li_150, li_160, li_200, li_225, li_255, li_400, li_799, li_800, li_999, li_2400, li_3239, li_3240, li_1048575, li_1431655765, li_858993459, li_252645135, eqb_j, ltb_j, leb_j, inb_j, ix_j, ix_n, nz_b, nz_0, nz_1, eqb_b, bnot, vI_ne, vI_eq, gIL, gLI, gIR, gRI, gLR, gRL, Int.reduceLT, Int.reduceLE, Int.reduceEq, Int.reduceAdd, Int.reduceSub, Int.reduceMul, Int.reduceNeg, Int.reduceToNat, Nat.reduceEqDiff, reduceIte, if_neg, if_pos, gI_ne, gIv 0, b1, show (-4 : Int32) = Zi (-4) from rfl, show (-2 : Int32) = Zi (-2) from rfl, cut0_s]
      · have h33 : vI (openM (sI m 1 1 (Zi 0))) 98 33 = vI m 98 33 := by rw [(openM_F _).v 98 33 (by omega), vI_ne (by omega)]
        rw [hk, fX13_policy_d]
        simp (disch := omega) only [fX13_policy_0, open_M, qbI_s, qbL_s, qbV_s, qbR_s, qbR_n, qbN_s, qbN_n, qbIX_s, qbIX_n, qbVX_s, qbVX_n, cond_true, cond_false, cond_dec, jadd, jsub, jmul, jneg, li_0, li_1, li_2, li_3, li_4, li_5, li_6, li_7, li_8, li_9, li_10, li_14, li_15, li_16, li_19, li_20, li_24, li_30, li_31, li_32, li_39, li_40, li_48, li_57, li_59, li_60, li_63, li_65, li_80, li_81, li_90, li_97, li_99, li_100, li_122, li_126, li_127, li_150, li_160, li_200, li_225, li_255, li_400, li_799, li_800, li_999, li_2400, li_3239, li_3240, li_1048575, li_1431655765, li_858993459, li_252645135, eqb_j, ltb_j, leb_j, inb_j, ix_j, ix_n, nz_b, nz_0, nz_1, eqb_b, bnot, vI_ne, vI_eq, gIL, gLI, gIR, gRI, gLR, gRL, Int.reduceLT, Int.reduceLE, Int.reduceEq, Int.reduceAdd, Int.reduceSub, Int.reduceMul, Int.reduceNeg, Int.reduceToNat, Nat.reduceEqDiff, reduceIte, if_neg, if_pos, gI_ne, ll_0, ll_1, ll_3, ll_5, ll_9, ll_10, ll_13, ll_14, ll_19, ll_20, ll_32, ll_60, ll_126, ll_799, ll_1024, ll_1048576, ll_67108864, Zladd, Zlsub, Zlmul, Zlneg, toL, lg_lt, lg_gt, lg_le, in_s, bI_dec, gIv 98, h33, show (-4 : Int32) = Zi (-4) from rfl]
  · refine refused (-2) (fun k hk => ?_) (fun k hk => ?_)
    · rw [hk, fX11_policy_d]
      simp (disch := omega) only [fX11_policy_0, fX11_policy_6, fX11_policy_30, pR_s, bI_dec, qbI_s, qbL_s, qbV_s, qbR_s, qbR_n, qbN_s, qbN_n, qbIX_s, qbIX_n, qbVX_s, qbVX_n, cond_true, cond_false, cond_dec, jadd, jsub, jmul, jneg, li_0, li_1, li_2, li_3, li_4, li_5, li_6, li_7, li_8, li_9, li_10, li_14, li_15, li_16, li_19, li_20, li_24, li_30, li_31, li_32, li_39, li_40, li_48, li_57, li_59, li_60, li_63, li_65, li_80, li_81, li_90, li_97, li_99, li_100, li_122, li_126, li_127, li_150, li_160, li_200, li_225, li_255, li_400, li_799, li_800, li_999, li_2400, li_3239, li_3240, li_1048575, li_1431655765, li_858993459, li_252645135, eqb_j, ltb_j, leb_j, inb_j, ix_j, ix_n, nz_b, nz_0, nz_1, eqb_b, bnot, vI_ne, vI_eq, gIL, gLI, gIR, gRI, gLR, gRL, Int.reduceLT, Int.reduceLE, Int.reduceEq, Int.reduceAdd, Int.reduceSub, Int.reduceMul, Int.reduceNeg, Int.reduceToNat, Nat.reduceEqDiff, reduceIte, if_neg, if_pos, gI_ne, show (-4 : Int32) = Zi (-4) from rfl, show (-2 : Int32) = Zi (-2) from rfl, cut0_s]
    · rw [hk, fX13_policy_d]
      simp (disch := omega) only [fX13_policy_0, open_M, qbI_s, qbL_s, qbV_s, qbR_s, qbR_n, qbN_s, qbN_n, qbIX_s, qbIX_n, qbVX_s, qbVX_n, cond_true, cond_false, cond_dec, jadd, jsub, jmul, jneg, li_0, li_1, li_2, li_3, li_4, li_5, li_6, li_7, li_8, li_9, li_10, li_14, li_15, li_16, li_19, li_20, li_24, li_30, li_31, li_32, li_39, li_40, li_48, li_57, li_59, li_60, li_63, li_65, li_80, li_81, li_90, li_97, li_99, li_100, li_122, li_126, li_127, li_150, li_160, li_200, li_225, li_255, li_400, li_799, li_800, li_999, li_2400, li_3239, li_3240, li_1048575, li_1431655765, li_858993459, li_252645135, eqb_j, ltb_j, leb_j, inb_j, ix_j, ix_n, nz_b, nz_0, nz_1, eqb_b, bnot, vI_ne, vI_eq, gIL, gLI, gIR, gRI, gLR, gRL, Int.reduceLT, Int.reduceLE, Int.reduceEq, Int.reduceAdd, Int.reduceSub, Int.reduceMul, Int.reduceNeg, Int.reduceToNat, Nat.reduceEqDiff, reduceIte, if_neg, if_pos, gI_ne, ll_0, ll_1, ll_3, ll_5, ll_9, ll_10, ll_13, ll_14, ll_19, ll_20, ll_32, ll_60, ll_126, ll_799, ll_1024, ll_1048576, ll_67108864, Zladd, Zlsub, Zlmul, Zlneg, toL, lg_lt, lg_gt, lg_le, in_s, bI_dec, show (-2 : Int32) = Zi (-2) from rfl]
