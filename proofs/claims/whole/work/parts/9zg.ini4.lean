/-! at the start both tell the same -/
def sR15 (c : Nat) : Prop := c = 3 ∨ c = 5 ∨ c = 16 ∨ c = 50 ∨ c = 51 ∨ c = 53 ∨ c = 63 ∨ c = 64 ∨ c = 68 ∨ c = 98 ∨ c = 99 ∨ c = 108 ∨ c = 115 ∨ c = 117 ∨ c = 120
theorem upR_ne {V : Nat → Nat → Int32} {c n : Nat} {v : Int32} {c' k' : Nat} (h : ¬ (c' = c ∧ k' < n)) : upR V c n v c' k' = V c' k' := if_neg h
theorem upR_eq {V : Nat → Nat → Int32} {c n : Nat} {v : Int32} {c' k' : Nat} (h : c' = c ∧ k' < n) : upR V c n v c' k' = v := if_pos h
theorem up1_ne {V : Nat → Nat → Int32} {c k : Nat} {v : Int32} {c' k' : Nat} (h : ¬ (c' = c ∧ k' = k)) : up1 V c k v c' k' = V c' k' := if_neg h
theorem up1_eq {V : Nat → Nat → Int32} {c k : Nat} {v : Int32} {c' k' : Nat} (h : c' = c ∧ k' = k) : up1 V c k v c' k' = v := if_pos h
theorem iV2_ne {c k : Nat} (h : ¬ (c = 5 ∧ k < 6)) : iV2 c k = iV1 c k := if_neg h
theorem iV2_eq {c k : Nat} (h : c = 5 ∧ k < 6) : iV2 c k = qx10000 k := if_pos h
theorem iV0_0 {c k : Nat} : iV0 c k = 0 := rfl
theorem iF_0 {c k : Nat} (h : ¬ sR15 c) : iVF iV6 c k = 0 := by
  unfold sR15 at h
  simp (disch := omega) only [iVF, iV6, iV5, iV4, iV3, iV1, iV2_ne, iV2_eq, iV0_0, upR_ne, upR_eq, up1_ne, up1_eq]
theorem iF_98 {k : Nat} (h : ¬ k = 19) : iVF iV6 98 k = 0 := by
  simp (disch := omega) only [iVF, iV6, iV5, iV4, iV3, iV1, iV2_ne, iV2_eq, iV0_0, upR_ne, upR_eq, up1_ne, up1_eq]
theorem iF_98n : iVF iV6 98 19 = Zi (-1) := by
  simp (disch := omega) only [iVF, iV6, iV5, iV4, iV3, iV1, iV2_ne, iV2_eq, iV0_0, upR_ne, upR_eq, up1_ne, up1_eq]
theorem iF_3 {k : Nat} (h : ¬ k = 5) : iVF iV6 3 k = 0 := by
  simp (disch := omega) only [iVF, iV6, iV5, iV4, iV3, iV1, iV2_ne, iV2_eq, iV0_0, upR_ne, upR_eq, up1_ne, up1_eq]
theorem iF_3n : iVF iV6 3 5 = Zi (-1) := by
  simp (disch := omega) only [iVF, iV6, iV5, iV4, iV3, iV1, iV2_ne, iV2_eq, iV0_0, upR_ne, upR_eq, up1_ne, up1_eq]
  rfl
theorem iF_5 {k : Nat} (h : k < 6) : iVF iV6 5 k = qx10000 k := by
  simp (disch := omega) only [iVF, iV6, iV5, iV4, iV3, iV1, iV2_ne, iV2_eq, iV0_0, upR_ne, upR_eq, up1_ne, up1_eq]
theorem iF_99 : iVF iV6 99 0 = Zi 10 ∧ iVF iV6 99 1 = Zi 2 ∧ iVF iV6 99 2 = Zi 1 ∧ iVF iV6 99 3 = Zi 15 ∧ iVF iV6 99 4 = Zi 0 ∧ iVF iV6 99 5 = Zi 0 := by
  refine ⟨?_, ?_, ?_, ?_, ?_, ?_⟩
  all_goals simp (disch := omega) only [iVF, upR_ne, upR_eq, up1_ne, up1_eq]
theorem iF_16 {k : Nat} (h : k < 10) : iVF iV6 16 k = Zi (-1) ∧ iVF iV6 108 k = Zi (-1) ∧ iVF iV6 115 k = Zi 19 ∧ iVF iV6 50 k = Zi 1048575 := by
  refine ⟨?_, ?_, ?_, ?_⟩
  all_goals simp (disch := omega) only [iVF, iV6, iV5, iV4, iV3, iV1, iV2_ne, iV2_eq, iV0_0, upR_ne, upR_eq, up1_ne, up1_eq]
  all_goals first | rfl | done
theorem iF_15 {k : Nat} (h : k < 15) : iVF iV6 51 k = Zi 1048575 ∧ iVF iV6 53 k = Zi 1048575 ∧ iVF iV6 117 k = Zi 19 ∧ iVF iV6 120 k = Zi 19 := by
  refine ⟨?_, ?_, ?_, ?_⟩
  all_goals simp (disch := omega) only [iVF, iV6, iV5, iV4, iV3, iV1, iV2_ne, iV2_eq, iV0_0, upR_ne, upR_eq, up1_ne, up1_eq]
theorem iF_63 {k : Nat} (h : k < 150) : iVF iV6 63 k = Zi (-1) := by
  simp (disch := omega) only [iVF, iV6, iV5, iV4, iV3, iV1, iV2_ne, iV2_eq, iV0_0, upR_ne, upR_eq, up1_ne, up1_eq]
theorem iF_64 {k : Nat} (h : k < 200) : iVF iV6 64 k = Zi (-1) := by
  simp (disch := omega) only [iVF, iV6, iV5, iV4, iV3, iV1, iV2_ne, iV2_eq, iV0_0, upR_ne, upR_eq, up1_ne, up1_eq]
theorem vI_Z {m : qM} {c k : Nat} {z : Int} (h : gI m c k = Zi z) (hz : -2147483648 ≤ z ∧ z < 2147483648) : vI m c k = z := by
  have h2 : vI (sI m c k (Zi z)) c k = z := by
    simp (disch := omega) only [qbI_s, qbL_s, qbV_s, qbR_s, qbR_n, qbN_s, qbN_n, qbIX_s, qbIX_n, qbVX_s, qbVX_n, cond_true, cond_false, cond_dec, jadd, jsub, jmul, jneg, li_0, li_1, li_2, li_3, li_4, li_5, li_6, li_7, li_8, li_9, li_10, li_14, li_15, li_16, li_19, li_20, li_24, li_30, li_31, li_32, li_39, li_40, li_48, li_57, li_59, li_60, li_63, li_65, li_80, li_81, li_90, li_97, li_99, li_100, li_122, li_126, li_127, li_150, li_160, li_200, li_225, li_255, li_400, li_799, li_800, li_999, li_2400, li_3239, li_3240, li_1048575, li_1431655765, li_858993459, li_252645135, eqb_j, ltb_j, leb_j, inb_j, ix_j, ix_n, nz_b, nz_0, nz_1, eqb_b, bnot, vI_ne, vI_eq, gIL, gLI, gIR, gRI, gLR, gRL, Int.reduceLT, Int.reduceLE, Int.reduceEq, Int.reduceAdd, Int.reduceSub, Int.reduceMul, Int.reduceNeg, Int.reduceToNat, Nat.reduceEqDiff, reduceIte, if_neg, if_pos, gI_ne]
  rw [← h2]
  exact (vI_of (by rw [gI_eq, if_pos rfl, h])).symm
theorem bt_all : ∀ s : Nat, s < 32 → bt (Zi 1048575) s = decide (s ≤ 19) := by decide +kernel
theorem start_R (m : qM) (h : AG m (iVF iV6)) (g7 : gR m 7 1 = some 9) (g80 : gR m 8 0 = some 19) (g81 : gR m 8 1 = some 26) (g82 : gR m 8 2 = some 33) (g83 : gR m 8 3 = some 40) : RAll m := by
  have z : ∀ c k, ¬ (c = 3 ∨ c = 5 ∨ c = 16 ∨ c = 50 ∨ c = 51 ∨ c = 53 ∨ c = 63 ∨ c = 64 ∨ c = 68 ∨ c = 98 ∨ c = 99 ∨ c = 108 ∨ c = 115 ∨ c = 117 ∨ c = 120) → gI m c k = 0 := fun c k hc => (h c k).trans (iF_0 hc)
  have zv : ∀ c k, ¬ (c = 3 ∨ c = 5 ∨ c = 16 ∨ c = 50 ∨ c = 51 ∨ c = 53 ∨ c = 63 ∨ c = 64 ∨ c = 68 ∨ c = 98 ∨ c = 99 ∨ c = 108 ∨ c = 115 ∨ c = 117 ∨ c = 120) → vI m c k = 0 := fun c k hc => vI_Z (z c k hc) (by omega)
  have z98 : ∀ k, ¬ k = 19 → vI m 98 k = 0 := fun k hk => vI_Z ((h 98 k).trans (iF_98 hk)) (by omega)
  obtain ⟨r0, r1, r2, r3, r4, r5⟩ := iF_99
  have q0 : vI m 99 0 = 10 := vI_Z ((h 99 0).trans r0) (by omega)
  have q1 : vI m 99 1 = 2 := vI_Z ((h 99 1).trans r1) (by omega)
  have q2 : vI m 99 2 = 1 := vI_Z ((h 99 2).trans r2) (by omega)
  have q3 : vI m 99 3 = 15 := vI_Z ((h 99 3).trans r3) (by omega)
  have q4 : vI m 99 4 = 0 := vI_Z ((h 99 4).trans r4) (by omega)
  have q5 : vI m 99 5 = 0 := vI_Z ((h 99 5).trans r5) (by omega)
  have p : ∀ k, k < 6 → qx10000 k = Zi (vI m 5 k) := fun k hk => by rw [← gIv 5, h 5 k, iF_5 hk]
  have q15 : ∀ k, k < 10 → vI m 16 k = -1 ∧ vI m 108 k = -1 ∧ vI m 115 k = 19 ∧ gI m 50 k = Zi 1048575 := fun k hk => by
    obtain ⟨a, b, c, d⟩ := iF_16 hk
    exact ⟨vI_Z ((h 16 k).trans a) (by omega), vI_Z ((h 108 k).trans b) (by omega), vI_Z ((h 115 k).trans c) (by omega), (h 50 k).trans d⟩
  have q17 : ∀ k, k < 15 → gI m 51 k = Zi 1048575 ∧ gI m 53 k = Zi 1048575 ∧ vI m 117 k = 19 ∧ vI m 120 k = 19 := fun k hk => by
    obtain ⟨a, b, c, d⟩ := iF_15 hk
    exact ⟨(h 51 k).trans a, (h 53 k).trans b, vI_Z ((h 117 k).trans c) (by omega), vI_Z ((h 120 k).trans d) (by omega)⟩
  have q63 : ∀ k, k < 150 → vI m 63 k = -1 := fun k hk => vI_Z ((h 63 k).trans (iF_63 hk)) (by omega)
  have q64 : ∀ k, k < 200 → vI m 64 k = -1 := fun k hk => vI_Z ((h 64 k).trans (iF_64 hk)) (by omega)
  have n0 : vI m 98 32 = 0 := z98 32 (by omega)
  have no : ∀ a : Nat, ¬ (a : Int) < vI m 98 32 := fun a ha => by omega
  have bz : ∀ s, bt (0 : Int32) s = false := fun s => b_0 s
  have hT : RTape m := by
    refine ⟨by rw [zv 1 1 (by omega)]; omega, by rw [zv 1 1 (by omega)]; omega, by rw [zv 1 1 (by omega), z98 12 (by omega)], fun k hk => ?_, fun k hk => by rw [zv 110 k (by omega)]; omega⟩
    rw [z 2 k (by omega), z 110 k (by omega)]
    rfl
  have hRd : RRead m := ⟨by rw [h 3 4, h 98 18, iF_3 (by omega), iF_98 (by omega)], by rw [h 3 5, h 98 19, iF_3n, iF_98n]⟩
  have hRu : RRule m := by
    refine ⟨fun k hk => ?_, by omega, by omega, by omega, by omega, by omega, by omega⟩
    have d : ∀ k, k < 6 → qx10000 k = Zi (if k = 0 then 10 else if k = 1 then 2 else if k = 2 then 1 else if k = 3 then 15 else 0) := by decide +kernel
    have e : vI m 5 k = if k = 0 then 10 else if k = 1 then 2 else if k = 2 then 1 else if k = 3 then 15 else 0 := vI_Z ((h 5 k).trans ((iF_5 hk).trans (d k hk))) (by
      split
      · omega
      · split
        · omega
        · split
          · omega
          · split <;> omega)
    rw [e]
    rcases (show k = 0 ∨ k = 1 ∨ k = 2 ∨ k = 3 ∨ k = 4 ∨ k = 5 by omega) with r | r | r | r | r | r
    all_goals subst r
    · exact q0.symm
    · exact q1.symm
    · exact q2.symm
    · exact q3.symm
    · exact q4.symm
    · exact q5.symm
  have hFo : RFol m := fun t ht => by
    obtain ⟨a, b, -, -⟩ := q15 t ht
    rw [a, b]
    omega
  have hHa : RHab m := ⟨fun t ht => by rw [zv 18 t (by omega), zv 132 t (by omega)]; omega, fun k => by rw [zv 17 k (by omega), zv 133 k (by omega)]; omega⟩
  have hPt : RPeoT m := fun t ht => by
    obtain ⟨-, -, c, d⟩ := q15 t ht
    rw [zv 48 t (by omega), zv 112 t (by omega), zv 49 t (by omega), zv 113 t (by omega), zv 114 t (by omega), c, d]
    refine ⟨by omega, by omega, by omega, fun s hs => ?_⟩
    rw [bt_all s hs]
    exact decide_eq_decide.mpr (by omega)
  have hPf : RPeoF m := fun f hf => by
    obtain ⟨a, b, c, d⟩ := q17 f hf
    rw [zv 116 f (by omega), zv 52 f (by omega), zv 118 f (by omega), zv 119 f (by omega), zv 54 f (by omega), zv 121 f (by omega), a, b, c, d]
    refine ⟨by omega, fun s hs => ?_, by omega, by omega, fun s hs => ?_, by omega⟩
    · rw [bt_all s hs]
      exact decide_eq_decide.mpr (by omega)
    · rw [bt_all s hs]
      exact decide_eq_decide.mpr (by omega)
  have hAp : RApart m := ⟨fun f g hf hg => by
    rw [z 55 f (by omega), bz, zv 122 _ (by omega), zv 122 _ (by omega)]
    exact ⟨rfl, rfl⟩, fun k hk => Or.inl (zv 122 k (by omega)), fun f hf => zv 122 _ (by omega)⟩
  have hWk : RWalk m := fun t u ht hu => by
    have e : wkV (vI m) t u = 0 := by
      unfold wkV
      rw [zv 113 t (by omega), zv 113 u (by omega), zv 112 t (by omega), zv 112 u (by omega), if_pos ⟨rfl, rfl⟩]
      simp
    rw [e, zv 56 _ (by omega), zv 57 _ (by omega), q0]
    exact ⟨rfl, rfl⟩
  have hAs : RAsk m := ⟨by rw [zv 58 11 (by omega), n0], by omega, by omega, fun a ha => absurd ha (no a)⟩
  have hPa : RPair m := fun f t hf ht => ⟨fun a ha => absurd ha (no a), fun _ => q63 _ (by omega)⟩
  have hCl : RClash m := fun a b ha => absurd ha (no a)
  have hDi : RDiary m := fun t s ht hs => ⟨fun a ha => absurd ha (no a), fun _ => q64 _ (by omega)⟩
  have hBi : RBits m := ⟨fun f s hf hs => by
    rw [z 65 f (by omega), bz, pd_f]
    rintro ⟨a, ha, -⟩
    exact no a ha, fun t s ht hs => by
    rw [z 66 t (by omega), bz, pd_f]
    rintro ⟨a, ha, -⟩
    exact no a ha, fun i s h1 h2 hs => by
    rw [z 67 i (by omega), bz, pd_f]
    rintro ⟨a, ha, -⟩
    exact no a ha⟩
  have hg0 : gapN (0 : Int32) = 0 := by
    unfold gapN
    refine fb_ct_zero.mpr fun k _ => ?_
    unfold gapB
    rw [pd_f (fun ⟨x, x1, x2⟩ => by rw [bz] at x2; cases x2)]
    simp
  have hCn : RCnt m := by
    have e : fb_sm (fun f => gapN (gI m 65 f)) 15 = 0 := by
      rw [fb_sm_cong (g := fun _ => 0) (fun k _ => by rw [z 65 k (by omega), hg0]), fb_sm_const]
    refine ⟨?_, ?_, ?_, ?_, ?_⟩
    · rw [n0, zv 58 12 (by omega)]; rfl
    · rw [n0, zv 58 13 (by omega)]; rfl
    · rw [n0, zv 58 14 (by omega)]; rfl
    · rw [e, zv 58 15 (by omega)]; rfl
    · rw [n0, zv 58 16 (by omega)]; rfl
  have t0 : vI m 98 52 = 0 := z98 52 (by omega)
  have hTe : RTell m := ⟨by rw [zv 74 5 (by omega), t0], by omega, by omega, fun k hk => by
    rw [zv 75 k (by omega), zv 76 k (by omega), zv 77 k (by omega), zv 78 k (by omega), zv 79 k (by omega), zv 134 k (by omega), zv 135 k (by omega), zv 136 k (by omega), zv 137 k (by omega), zv 138 k (by omega)]
    exact ⟨rfl, rfl, rfl, rfl, rfl⟩, fun k hk => by omega, fun j k hj hk => by omega⟩
  have hBe : RBeg m := ⟨by rw [zv 0 10 (by omega), z98 33 (by omega)], Or.inl (z98 33 (by omega)), fun _ => ⟨t0, fun j _ => zv 83 j (by omega)⟩⟩
  have hNo : RNote m := by
    refine ⟨fun a ha => by rw [zv 95 a (by omega), zv 151 a (by omega)]; omega, fun a _ ha => zv 151 a (by omega), fun k hk => by rw [zv 94 k (by omega), zv 153 k (by omega)]; omega, fun a t ha ht => ?_, fun k hk => Or.inl (zv 154 k (by omega)), ?_, fun i hi => by rw [z 97 i (by omega), z 152 i (by omega)], ?_⟩
    · rw [z 96 a (by omega), bz, zv 154 _ (by omega)]
      rfl
    · rw [zv 93 5 (by omega), z98 75 (by omega)]
      omega
    · rw [zv 93 6 (by omega)]
      have : fb_ct (fun a => decide (0 < vI m 151 a)) 40 = 0 := fb_ct_zero.mpr fun k _ => by
        rw [zv 151 k (by omega)]
        rfl
      rw [this]
      rfl
  have hPo : RPol m := by
    refine ⟨fun i => if i = 0 then 19 else if i = 1 then 26 else if i = 2 then 33 else if i = 3 then 40 else 9, fun i hi => ?_, fun i j hi hj e => ?_, fun q hq => ?_, by simpa using g7, fun q hq => ?_⟩
    · unfold polC
      rcases (show i = 0 ∨ i = 1 ∨ i = 2 ∨ i = 3 ∨ i = 4 by omega) with r | r | r | r | r
      all_goals subst r
      all_goals simp
    · rcases (show i = 0 ∨ i = 1 ∨ i = 2 ∨ i = 3 ∨ i = 4 by omega) with r | r | r | r | r
      all_goals subst r
      all_goals rcases (show j = 0 ∨ j = 1 ∨ j = 2 ∨ j = 3 ∨ j = 4 by omega) with r | r | r | r | r
      all_goals subst r
      all_goals first | rfl | (exact absurd e (by decide))
    · rcases (show q = 0 ∨ q = 1 ∨ q = 2 ∨ q = 3 by omega) with r | r | r | r
      all_goals subst r
      · simpa using g80
      · simpa using g81
      · simpa using g82
      · simpa using g83
    · have e101 := zv 101 q (by omega)
      refine ⟨?_, by omega, by omega, fun l hl => by omega⟩
      rw [e101]
      rcases (show q = 0 ∨ q = 1 ∨ q = 2 ∨ q = 3 by omega) with r | r | r | r
      all_goals subst r
      · simpa using zv 19 6 (by omega)
      · simpa using zv 26 6 (by omega)
      · simpa using zv 33 6 (by omega)
      · simpa using zv 40 6 (by omega)
  refine ⟨⟨⟨hT, hRd, hRu, hFo, hHa⟩, ⟨hPt, hPf, hAp, hWk⟩, ⟨hAs, hPa, hCl, hDi, hBi, hCn⟩, ⟨hTe, hBe, hNo, hPo⟩⟩, fun j hj hd => absurd (zv 83 j (by omega)) hd⟩
