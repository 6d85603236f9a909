/-! an ask is laid, or taken out: the class's own put and take -/
theorem CRule.mono {m m' : qM} {d d' : Nat → Nat → Int} (h : CRule m d) (q : ∀ c k, c = 5 ∨ c = 99 → gI m' c k = gI m c k) (qd : ∀ c k, c = 5 ∨ c = 99 → d' c k = d c k) : CRule m' d' := by
  have v : ∀ c k, c = 5 ∨ c = 99 → vI m' c k = vI m c k := fun c k hc => vI_of (q c k hc)
  simp only [CRule] at h ⊢
  simp (disch := omega) only [v, q, qd]
  exact h
theorem CPeoT.mono {m m' : qM} {d d' : Nat → Nat → Int} (h : CPeoT m d) (q : ∀ c k, 48 ≤ c ∧ c ≤ 50 ∨ 112 ≤ c ∧ c ≤ 115 → gI m' c k = gI m c k) (qd : ∀ c k, 48 ≤ c ∧ c ≤ 50 ∨ 112 ≤ c ∧ c ≤ 115 → d' c k = d c k) : CPeoT m' d' := by
  have v : ∀ c k, 48 ≤ c ∧ c ≤ 50 ∨ 112 ≤ c ∧ c ≤ 115 → vI m' c k = vI m c k := fun c k hc => vI_of (q c k hc)
  simp only [CPeoT] at h ⊢
  simp (disch := omega) only [v, q, qd]
  exact h
theorem CPeoF.mono {m m' : qM} {d d' : Nat → Nat → Int} (h : CPeoF m d) (q : ∀ c k, 51 ≤ c ∧ c ≤ 54 ∨ 116 ≤ c ∧ c ≤ 121 → gI m' c k = gI m c k) (qd : ∀ c k, 51 ≤ c ∧ c ≤ 54 ∨ 116 ≤ c ∧ c ≤ 121 → d' c k = d c k) : CPeoF m' d' := by
  have v : ∀ c k, 51 ≤ c ∧ c ≤ 54 ∨ 116 ≤ c ∧ c ≤ 121 → vI m' c k = vI m c k := fun c k hc => vI_of (q c k hc)
  simp only [CPeoF] at h ⊢
  simp (disch := omega) only [v, q, qd]
  exact h
theorem CApart.mono {m m' : qM} {d d' : Nat → Nat → Int} (h : CApart m d) (q : ∀ c k, c = 55 ∨ c = 122 → gI m' c k = gI m c k) (qd : ∀ c k, c = 55 ∨ c = 122 → d' c k = d c k) : CApart m' d' := by
  have v : ∀ c k, c = 55 ∨ c = 122 → vI m' c k = vI m c k := fun c k hc => vI_of (q c k hc)
  simp only [CApart] at h ⊢
  simp (disch := omega) only [v, q, qd]
  exact h
theorem CWalk.mono {m m' : qM} {d d' : Nat → Nat → Int} (h : CWalk m d) (q : ∀ c k, c = 56 ∨ c = 57 ∨ c = 99 ∨ c = 112 ∨ c = 113 → gI m' c k = gI m c k) (qd : ∀ c k, c = 56 ∨ c = 57 ∨ c = 99 ∨ c = 112 ∨ c = 113 → d' c k = d c k) : CWalk m' d' := by
  have v : ∀ c k, c = 56 ∨ c = 57 ∨ c = 99 ∨ c = 112 ∨ c = 113 → vI m' c k = vI m c k := fun c k hc => vI_of (q c k hc)
  simp only [CWalk, wkV] at h ⊢
  simp (disch := omega) only [v, q, qd]
  exact h
theorem CPair.mono {m m' : qM} {d d' : Nat → Nat → Int} (h : CPair m d) (q : ∀ c k, c = 63 ∨ c = 98 ∧ k = 32 ∨ c = 123 ∨ c = 124 → gI m' c k = gI m c k) (qd : ∀ c k, c = 63 ∨ c = 98 ∧ k = 32 ∨ c = 123 ∨ c = 124 → d' c k = d c k) : CPair m' d' := by
  have v : ∀ c k, c = 63 ∨ c = 98 ∧ k = 32 ∨ c = 123 ∨ c = 124 → vI m' c k = vI m c k := fun c k hc => vI_of (q c k hc)
  simp only [CPair] at h ⊢
  simp (disch := omega) only [v, q, qd]
  exact h
def plP (c k : Nat) : Prop := c = 58 ∧ 13 ≤ k ∧ k ≤ 16 ∨ c = 62 ∨ 64 ≤ c ∧ c ≤ 67
theorem CAll.step {m m' : qM} {d d' : Nat → Nat → Int} (hC : CAll m d) (f1 : Fr plP m m') (hd : ∀ c k, ¬ c = 125 → d' c k = d c k) (h62 : ∀ o : Nat, (o : Int) < d 98 32 → vI m' 62 o = d' 125 o ∧ -1 ≤ d' 125 o ∧ d' 125 o ≤ 19) (hCl' : CClash m' d') (hDi' : CDiary m' d') (hBi' : CBits m' d') (hCn' : CCnt m' d') : CAll m' d' := by
  obtain ⟨hRu, hPt, hPf, hAp, hWk, hAs, hPa, hCl, hDi, hBi, hCn⟩ := hC
  have q : ∀ c k, ¬ (c = 58 ∧ 13 ≤ k ∧ k ≤ 16 ∨ c = 62 ∨ 64 ≤ c ∧ c ≤ 67) → gI m' c k = gI m c k := f1.1
  have v : ∀ c k, ¬ (c = 58 ∧ 13 ≤ k ∧ k ≤ 16 ∨ c = 62 ∨ 64 ≤ c ∧ c ≤ 67) → vI m' c k = vI m c k := fun c k hc => vI_of (q c k hc)
  refine ⟨hRu.mono (fun c k hc => q c k (by omega)) (fun c k hc => hd c k (by omega)), hPt.mono (fun c k hc => q c k (by omega)) (fun c k hc => hd c k (by omega)), hPf.mono (fun c k hc => q c k (by omega)) (fun c k hc => hd c k (by omega)), hAp.mono (fun c k hc => q c k (by omega)) (fun c k hc => hd c k (by omega)), hWk.mono (fun c k hc => q c k (by omega)) (fun c k hc => hd c k (by omega)), ?_, hPa.mono (fun c k hc => q c k (by omega)) (fun c k hc => hd c k (by omega)), hCl', hDi', hBi', hCn'⟩
  obtain ⟨e1, e2, e3, e4⟩ := hAs
  simp only [CAsk]
  simp (disch := omega) only [hd, v]
  refine ⟨e1, e2, e3, fun o ho => ?_⟩
  obtain ⟨k1, k2, k3, k4⟩ := e4 o ho
  exact ⟨k1, k2, k3, h62 o ho⟩
theorem ct_r (d : Nat → Nat → Int) (hD : DOk d) : fb_ct (fun k => isLd d k) (d 98 32).toNat ≤ 40 ∧ fb_ct (fun k => isLd d k && decide (d 126 k = 1)) (d 98 32).toNat ≤ 40 := by
  have h1 := fb_ct_le (fun k => isLd d k) (d 98 32).toNat
  have h2 := fb_ct_le (fun k => isLd d k && decide (d 126 k = 1)) (d 98 32).toNat
  have h3 := hD.2.2.2.2.2.1
  omega
theorem wt_r (m : qM) : fb_sm (fun f => gapN (gI m 65 f)) 15 ≤ 480 := fb_sm_bound (f := fun f => gapN (gI m 65 f)) (c := 32) (n := 15) (fun k _ => fb_ct_le _ _)
theorem wt_up (m m' : qM) (f : Nat) (hf : f < 15) (h : ∀ k, k ≠ f → gI m' 65 k = gI m 65 k) : ((fb_sm (fun f => gapN (gI m' 65 f)) 15 : Nat) : Int) = fb_sm (fun f => gapN (gI m 65 f)) 15 - gapN (gI m 65 f) + gapN (gI m' 65 f) := by
  have e : (fun k => gapN (gI m' 65 k)) = (fun k => if k = f then gapN (gI m' 65 f) else gapN (gI m 65 k)) := funext fun k => by
    by_cases g : k = f
    · rw [if_pos g, g]
    · rw [if_neg g, h k g]
  have h9 := fb_sm_upd (fun f => gapN (gI m 65 f)) (gapN (gI m' 65 f)) hf
  rw [e]
  omega
theorem put_s (m : qM) (d : Nat → Nat → Int) (hC : CAll m d) (a s : Nat) (ha : (a : Int) < d 98 32) (hu : d 125 a = -1) (hs : s < 20) (hN : NC d a s) : wp (fX4_put (Zi a) (Zi s) m) (fun _ m' => CAll m' (upS d a s) ∧ Fr plP m m') := by
  have hD := DOk.of hC
  have hC' := hC
  obtain ⟨hRu, hPt, hPf, hAp, hWk, hAs, hPa, hCl, hDi, hBi, hCn⟩ := hC'
  obtain ⟨e1, e2, e3, e4⟩ := hAs
  obtain ⟨k1, k2, k3, k4⟩ := e4 a ha
  obtain ⟨f, hf⟩ : ∃ f : Nat, d 123 a = f := ⟨(d 123 a).toNat, by omega⟩
  obtain ⟨t, ht⟩ : ∃ t : Nat, d 124 a = t := ⟨(d 124 a).toNat, by omega⟩
  obtain ⟨u, m1, g1, s1, s2, s3, s4, s5, f1⟩ := mark_s m d hC a s f t ha hs hf ht
  obtain ⟨u1, u2, u3⟩ := up_bits d hD a s ha hu hN
  obtain ⟨n1, n2, n3⟩ := up_cnt d a s ha hu
  have r1 := ct_r d hD
  have r2 := ptV_r d hD
  have r3 := ptAt_r d hD a s ha
  have pF := hPf f (by omega)
  obtain ⟨b, hb⟩ : ∃ b : Bool, decide (d 119 f ≤ s ∧ (s : Int) ≤ d 120 f) = b := ⟨_, rfl⟩
  have hh : ∀ w, fX11_has (gI m 53 f) (Zi s) w = some (Zi (bI b), w) := fun w => by
    rw [has_s _ s (by omega), pF.2.2.2.2.1 s (by omega), hb]
  have hp : ptAt d a s = if b then 1 + d 121 f else 0 := by
    unfold ptAt
    rw [hf, Int.toNat_natCast, ← hb]
    by_cases g : d 119 f ≤ s ∧ (s : Int) ≤ d 120 f
    · rw [if_pos g, if_pos (decide_eq_true g)]
    · rw [if_neg g, if_neg (by rw [decide_eq_false g]; decide)]
  have c59 : vI m1 59 a = f := by rw [f1.v 59 a (by omega), k1.1, hf]
  have c60 : vI m1 60 a = t := by rw [f1.v 60 a (by omega), k2.1, ht]
  have c61 : vI m1 61 a = d 126 a := by rw [f1.v 61 a (by omega), k3.1]
  have c53 : gI m1 53 f = gI m 53 f := f1.1 53 f (by omega)
  have c54 : vI m1 54 f = d 121 f := by rw [f1.v 54 f (by omega), pF.2.2.2.2.2.1]
  have c13 : vI m1 58 13 = fb_ct (fun k => isLd d k) (d 98 32).toNat := by rw [f1.v 58 13 (by omega), hCn.2.1]
  have c14 : vI m1 58 14 = fb_ct (fun k => isLd d k && decide (d 126 k = 1)) (d 98 32).toNat := by rw [f1.v 58 14 (by omega), hCn.2.2.1]
  have c16 : vI m1 58 16 = fb_si (fun k => ptV d k) (d 98 32).toNat := by rw [f1.v 58 16 (by omega), hCn.2.2.2.2]
  have i1 : ((t : Int) * 20 + s).toNat = 20 * t + s := by omega
  obtain ⟨mu, hmu⟩ : ∃ mu : Int, mu = (if d 126 a = 1 then 1 else 0) := ⟨_, rfl⟩
  have hmu2 : 0 ≤ mu ∧ mu ≤ 1 := by rw [hmu]; split <;> omega
  have pX : fX4_put (Zi a) (Zi s) m = some ((), sI (sI (sI (sI (sI m1 62 a (Zi s)) 64 (20 * t + s) (Zi a)) 58 13 (Zi (vI m1 58 13 + 1))) 58 14 (Zi (vI m1 58 14 + mu))) 58 16 (Zi (vI m1 58 16 + ptAt d a s))) := by
    rw [fX4_put_d]
    rcases k3.2 with g | g
    · rw [hmu, if_neg (by omega)]
      rw [hp]
      cases b
      · simp (disch := omega) only [fX4_put_0, fX4_put_38, g1, fX4_pointsIn_d, fX4_pointsIn_0, fX4_pointsIn_20, fX3_wishOf_d, fX3_wishOf_0, fX3_yearsOf_d, fX3_yearsOf_0, qbI_s, qbL_s, qbV_s, qbR_s, qbR_n, qbN_s, qbN_n, qbIX_s, qbIX_n, qbVX_s, qbVX_n, cond_true, cond_false, cond_dec, jadd, jsub, jmul, jneg, li_0, li_1, li_2, li_3, li_4, li_5, li_6, li_7, li_8, li_9, li_10, li_14, li_15, li_16, li_19, li_20, li_24, li_30, li_31, li_32, li_39, li_40, li_48, li_57, li_59, li_60, li_63, li_65, li_80, li_81, li_90, li_97, li_99, li_100, li_122, li_126, li_127, li_150, li_160, li_200, li_225, li_255, li_400, li_799, li_800, li_999, li_2400, li_3239, li_3240, li_1048575, li_1431655765, li_858993459, li_252645135, eqb_j, ltb_j, leb_j, inb_j, ix_j, ix_n, nz_b, nz_0, nz_1, eqb_b, bnot, vI_ne, vI_eq, gIL, gLI, gIR, gRI, gLR, gRL, Int.reduceLT, Int.reduceLE, Int.reduceEq, Int.reduceAdd, Int.reduceSub, Int.reduceMul, Int.reduceNeg, Int.reduceToNat, Nat.reduceEqDiff, reduceIte, if_neg, if_pos, gI_ne, gIv 59, gIv 60, gIv 61, gIv 58, gIv 54, c59, c60, c61, c53, c54, i1, hh, g, show bI false = 0 from rfl, Int.add_comm (0 : Int), Bool.false_eq_true]
      · simp (disch := omega) only [fX4_put_0, fX4_put_38, g1, fX4_pointsIn_d, fX4_pointsIn_0, fX4_pointsIn_20, fX3_wishOf_d, fX3_wishOf_0, fX3_yearsOf_d, fX3_yearsOf_0, qbI_s, qbL_s, qbV_s, qbR_s, qbR_n, qbN_s, qbN_n, qbIX_s, qbIX_n, qbVX_s, qbVX_n, cond_true, cond_false, cond_dec, jadd, jsub, jmul, jneg, li_0, li_1, li_2, li_3, li_4, li_5, li_6, li_7, li_8, li_9, li_10, li_14, li_15, li_16, li_19, li_20, li_24, li_30, li_31, li_32, li_39, li_40, li_48, li_57, li_59, li_60, li_63, li_65, li_80, li_81, li_90, li_97, li_99, li_100, li_122, li_126, li_127, li_150, li_160, li_200, li_225, li_255, li_400, li_799, li_800, li_999, li_2400, li_3239, li_3240, li_1048575, li_1431655765, li_858993459, li_252645135, eqb_j, ltb_j, leb_j, inb_j, ix_j, ix_n, nz_b, nz_0, nz_1, eqb_b, bnot, vI_ne, vI_eq, gIL, gLI, gIR, gRI, gLR, gRL, Int.reduceLT, Int.reduceLE, Int.reduceEq, Int.reduceAdd, Int.reduceSub, Int.reduceMul, Int.reduceNeg, Int.reduceToNat, Nat.reduceEqDiff, reduceIte, if_neg, if_pos, gI_ne, gIv 59, gIv 60, gIv 61, gIv 58, gIv 54, c59, c60, c61, c53, c54, i1, hh, g, show bI true = 1 from rfl]
    · rw [hmu, if_pos g]
      rw [hp]
      cases b
      · simp (disch := omega) only [fX4_put_0, fX4_put_38, g1, fX4_pointsIn_d, fX4_pointsIn_0, fX4_pointsIn_20, fX3_wishOf_d, fX3_wishOf_0, fX3_yearsOf_d, fX3_yearsOf_0, qbI_s, qbL_s, qbV_s, qbR_s, qbR_n, qbN_s, qbN_n, qbIX_s, qbIX_n, qbVX_s, qbVX_n, cond_true, cond_false, cond_dec, jadd, jsub, jmul, jneg, li_0, li_1, li_2, li_3, li_4, li_5, li_6, li_7, li_8, li_9, li_10, li_14, li_15, li_16, li_19, li_20, li_24, li_30, li_31, li_32, li_39, li_40, li_48, li_57, li_59, li_60, li_63, li_65, li_80, li_81, li_90, li_97, li_99, li_100, li_122, li_126, li_127, li_150, li_160, li_200, li_225, li_255, li_400, li_799, li_800, li_999, li_2400, li_3239, li_3240, li_1048575, li_1431655765, li_858993459, li_252645135, eqb_j, ltb_j, leb_j, inb_j, ix_j, ix_n, nz_b, nz_0, nz_1, eqb_b, bnot, vI_ne, vI_eq, gIL, gLI, gIR, gRI, gLR, gRL, Int.reduceLT, Int.reduceLE, Int.reduceEq, Int.reduceAdd, Int.reduceSub, Int.reduceMul, Int.reduceNeg, Int.reduceToNat, Nat.reduceEqDiff, reduceIte, if_neg, if_pos, gI_ne, gIv 59, gIv 60, gIv 61, gIv 58, gIv 54, c59, c60, c61, c53, c54, i1, hh, g, show bI false = 0 from rfl, Bool.false_eq_true]
      · simp (disch := omega) only [fX4_put_0, fX4_put_38, g1, fX4_pointsIn_d, fX4_pointsIn_0, fX4_pointsIn_20, fX3_wishOf_d, fX3_wishOf_0, fX3_yearsOf_d, fX3_yearsOf_0, qbI_s, qbL_s, qbV_s, qbR_s, qbR_n, qbN_s, qbN_n, qbIX_s, qbIX_n, qbVX_s, qbVX_n, cond_true, cond_false, cond_dec, jadd, jsub, jmul, jneg, li_0, li_1, li_2, li_3, li_4, li_5, li_6, li_7, li_8, li_9, li_10, li_14, li_15, li_16, li_19, li_20, li_24, li_30, li_31, li_32, li_39, li_40, li_48, li_57, li_59, li_60, li_63, li_65, li_80, li_81, li_90, li_97, li_99, li_100, li_122, li_126, li_127, li_150, li_160, li_200, li_225, li_255, li_400, li_799, li_800, li_999, li_2400, li_3239, li_3240, li_1048575, li_1431655765, li_858993459, li_252645135, eqb_j, ltb_j, leb_j, inb_j, ix_j, ix_n, nz_b, nz_0, nz_1, eqb_b, bnot, vI_ne, vI_eq, gIL, gLI, gIR, gRI, gLR, gRL, Int.reduceLT, Int.reduceLE, Int.reduceEq, Int.reduceAdd, Int.reduceSub, Int.reduceMul, Int.reduceNeg, Int.reduceToNat, Nat.reduceEqDiff, reduceIte, if_neg, if_pos, gI_ne, gIv 59, gIv 60, gIv 61, gIv 58, gIv 54, c59, c60, c61, c53, c54, i1, hh, g, show bI true = 1 from rfl]
  have f2 : Fr plP m (sI (sI (sI (sI (sI m1 62 a (Zi s)) 64 (20 * t + s) (Zi a)) 58 13 (Zi (vI m1 58 13 + 1))) 58 14 (Zi (vI m1 58 14 + mu))) 58 16 (Zi (vI m1 58 16 + ptAt d a s))) := by
    refine Fr.wI (Fr.wI (Fr.wI (Fr.wI (Fr.wI (f1.wide ?_) _ _ _ ?_) _ _ _ ?_) _ _ _ ?_) _ _ _ ?_) _ _ _ ?_
    · intro c k h; unfold plP; omega
    all_goals (unfold plP; omega)
  refine ⟨(), _, pX, CAll.step hC f2 (fun c k hc => upS_ne d a s hc) (fun o ho => ?_) ?_ ?_ ?_ ?_, f2⟩
  · have k9 := (e4 o ho).2.2.2
    simp (disch := omega) only [qbI_s, qbL_s, qbV_s, qbR_s, qbR_n, qbN_s, qbN_n, qbIX_s, qbIX_n, qbVX_s, qbVX_n, cond_true, cond_false, cond_dec, jadd, jsub, jmul, jneg, li_0, li_1, li_2, li_3, li_4, li_5, li_6, li_7, li_8, li_9, li_10, li_14, li_15, li_16, li_19, li_20, li_24, li_30, li_31, li_32, li_39, li_40, li_48, li_57, li_59, li_60, li_63, li_65, li_80, li_81, li_90, li_97, li_99, li_100, li_122, li_126, li_127, li_150, li_160, li_200, li_225, li_255, li_400, li_799, li_800, li_999, li_2400, li_3239, li_3240, li_1048575, li_1431655765, li_858993459, li_252645135, eqb_j, ltb_j, leb_j, inb_j, ix_j, ix_n, nz_b, nz_0, nz_1, eqb_b, bnot, vI_ne, vI_eq, gIL, gLI, gIR, gRI, gLR, gRL, Int.reduceLT, Int.reduceLE, Int.reduceEq, Int.reduceAdd, Int.reduceSub, Int.reduceMul, Int.reduceNeg, Int.reduceToNat, Nat.reduceEqDiff, reduceIte, if_neg, if_pos, gI_ne, upS_eq, f1.v 62 o]
    by_cases g : o = a
    · rw [if_pos g, if_pos g]; omega
    · rw [if_neg g, if_neg g]; exact k9
  · intro o o2 h1 h2 h3 h4 h5
    simp (disch := omega) only [upS_ne, upS_eq] at h1 h2 h4 h5 ⊢
    by_cases c1 : o = a
    · rw [if_pos c1] at h5
      rw [if_neg (by omega)] at h5
      have := hN o2 h2 (by omega) h5.symm
      rw [c1]
      refine ⟨fun z => this.1 z.symm, fun z => this.2.1 z.symm, fun z => this.2.2 ⟨z.1, z.2.symm⟩⟩
    · rw [if_neg c1] at h4 h5
      by_cases c2 : o2 = a
      · rw [if_pos c2] at h5
        have := hN o h1 c1 h5
        rw [c2]
        exact ⟨this.1, this.2.1, fun z => this.2.2 ⟨by rw [← z.2]; exact z.1, z.2⟩⟩
      · rw [if_neg c2] at h5
        exact hCl o o2 h1 h2 h3 h4 h5
  · intro t' s' ht' hs'
    obtain ⟨p1, p2⟩ := hDi t' s' ht' hs'
    simp (disch := omega) only [qbI_s, qbL_s, qbV_s, qbR_s, qbR_n, qbN_s, qbN_n, qbIX_s, qbIX_n, qbVX_s, qbVX_n, cond_true, cond_false, cond_dec, jadd, jsub, jmul, jneg, li_0, li_1, li_2, li_3, li_4, li_5, li_6, li_7, li_8, li_9, li_10, li_14, li_15, li_16, li_19, li_20, li_24, li_30, li_31, li_32, li_39, li_40, li_48, li_57, li_59, li_60, li_63, li_65, li_80, li_81, li_90, li_97, li_99, li_100, li_122, li_126, li_127, li_150, li_160, li_200, li_225, li_255, li_400, li_799, li_800, li_999, li_2400, li_3239, li_3240, li_1048575, li_1431655765, li_858993459, li_252645135, eqb_j, ltb_j, leb_j, inb_j, ix_j, ix_n, nz_b, nz_0, nz_1, eqb_b, bnot, vI_ne, vI_eq, gIL, gLI, gIR, gRI, gLR, gRL, Int.reduceLT, Int.reduceLE, Int.reduceEq, Int.reduceAdd, Int.reduceSub, Int.reduceMul, Int.reduceNeg, Int.reduceToNat, Nat.reduceEqDiff, reduceIte, if_neg, if_pos, gI_ne, upS_ne, upS_eq, f1.v 64]
    refine ⟨fun o h1 h2 h3 => ?_, fun h1 => ?_⟩
    · by_cases c1 : o = a
      · rw [if_pos c1] at h3
        rw [if_pos (by rw [c1] at h2; omega), c1]
      · rw [if_neg c1] at h3
        rw [if_neg (fun z => (hN o h1 c1 (by omega)).2.1 (by omega))]
        exact p1 o h1 h2 h3
    · rw [if_neg (fun z => h1 a ha ⟨by omega, by rw [if_pos rfl]; omega⟩)]
      refine p2 fun o h2 ⟨h3, h4⟩ => h1 o h2 ⟨h3, ?_⟩
      rw [if_neg (fun z => by rw [z, hu] at h4; omega)]
      exact h4
  · refine ⟨fun f' s' hf' hs' => ?_, fun t' s' ht' hs' => ?_, fun i s' hi hi2 hs' => ?_⟩
    · simp (disch := omega) only [qbI_s, qbL_s, qbV_s, qbR_s, qbR_n, qbN_s, qbN_n, qbIX_s, qbIX_n, qbVX_s, qbVX_n, cond_true, cond_false, cond_dec, jadd, jsub, jmul, jneg, li_0, li_1, li_2, li_3, li_4, li_5, li_6, li_7, li_8, li_9, li_10, li_14, li_15, li_16, li_19, li_20, li_24, li_30, li_31, li_32, li_39, li_40, li_48, li_57, li_59, li_60, li_63, li_65, li_80, li_81, li_90, li_97, li_99, li_100, li_122, li_126, li_127, li_150, li_160, li_200, li_225, li_255, li_400, li_799, li_800, li_999, li_2400, li_3239, li_3240, li_1048575, li_1431655765, li_858993459, li_252645135, eqb_j, ltb_j, leb_j, inb_j, ix_j, ix_n, nz_b, nz_0, nz_1, eqb_b, bnot, vI_ne, vI_eq, gIL, gLI, gIR, gRI, gLR, gRL, Int.reduceLT, Int.reduceLE, Int.reduceEq, Int.reduceAdd, Int.reduceSub, Int.reduceMul, Int.reduceNeg, Int.reduceToNat, Nat.reduceEqDiff, reduceIte, if_neg, if_pos, gI_ne, gI_ne]
      rw [s1 f' s' hf' hs', hBi.1 f' s' hf' hs', u1, hf]
      congr 1
      exact decide_eq_decide.mpr (by omega)
    · simp (disch := omega) only [qbI_s, qbL_s, qbV_s, qbR_s, qbR_n, qbN_s, qbN_n, qbIX_s, qbIX_n, qbVX_s, qbVX_n, cond_true, cond_false, cond_dec, jadd, jsub, jmul, jneg, li_0, li_1, li_2, li_3, li_4, li_5, li_6, li_7, li_8, li_9, li_10, li_14, li_15, li_16, li_19, li_20, li_24, li_30, li_31, li_32, li_39, li_40, li_48, li_57, li_59, li_60, li_63, li_65, li_80, li_81, li_90, li_97, li_99, li_100, li_122, li_126, li_127, li_150, li_160, li_200, li_225, li_255, li_400, li_799, li_800, li_999, li_2400, li_3239, li_3240, li_1048575, li_1431655765, li_858993459, li_252645135, eqb_j, ltb_j, leb_j, inb_j, ix_j, ix_n, nz_b, nz_0, nz_1, eqb_b, bnot, vI_ne, vI_eq, gIL, gLI, gIR, gRI, gLR, gRL, Int.reduceLT, Int.reduceLE, Int.reduceEq, Int.reduceAdd, Int.reduceSub, Int.reduceMul, Int.reduceNeg, Int.reduceToNat, Nat.reduceEqDiff, reduceIte, if_neg, if_pos, gI_ne, gI_ne]
      rw [s3 t' s' ht' hs', hBi.2.1 t' s' ht' hs', u2, ht]
      congr 1
      exact decide_eq_decide.mpr (by omega)
    · simp (disch := omega) only [qbI_s, qbL_s, qbV_s, qbR_s, qbR_n, qbN_s, qbN_n, qbIX_s, qbIX_n, qbVX_s, qbVX_n, cond_true, cond_false, cond_dec, jadd, jsub, jmul, jneg, li_0, li_1, li_2, li_3, li_4, li_5, li_6, li_7, li_8, li_9, li_10, li_14, li_15, li_16, li_19, li_20, li_24, li_30, li_31, li_32, li_39, li_40, li_48, li_57, li_59, li_60, li_63, li_65, li_80, li_81, li_90, li_97, li_99, li_100, li_122, li_126, li_127, li_150, li_160, li_200, li_225, li_255, li_400, li_799, li_800, li_999, li_2400, li_3239, li_3240, li_1048575, li_1431655765, li_858993459, li_252645135, eqb_j, ltb_j, leb_j, inb_j, ix_j, ix_n, nz_b, nz_0, nz_1, eqb_b, bnot, vI_ne, vI_eq, gIL, gLI, gIR, gRI, gLR, gRL, Int.reduceLT, Int.reduceLE, Int.reduceEq, Int.reduceAdd, Int.reduceSub, Int.reduceMul, Int.reduceNeg, Int.reduceToNat, Nat.reduceEqDiff, reduceIte, if_neg, if_pos, gI_ne, gI_ne]
      rw [s4 i s' hi hi2 hs', hBi.2.2 i s' hi hi2 hs', u3 i s' hi, hf, Int.toNat_natCast]
  · have w1 := wt_up m m1 f (by omega) s2
    have w2 := wt_r m1
    simp (disch := omega) only [CCnt, qbI_s, qbL_s, qbV_s, qbR_s, qbR_n, qbN_s, qbN_n, qbIX_s, qbIX_n, qbVX_s, qbVX_n, cond_true, cond_false, cond_dec, jadd, jsub, jmul, jneg, li_0, li_1, li_2, li_3, li_4, li_5, li_6, li_7, li_8, li_9, li_10, li_14, li_15, li_16, li_19, li_20, li_24, li_30, li_31, li_32, li_39, li_40, li_48, li_57, li_59, li_60, li_63, li_65, li_80, li_81, li_90, li_97, li_99, li_100, li_122, li_126, li_127, li_150, li_160, li_200, li_225, li_255, li_400, li_799, li_800, li_999, li_2400, li_3239, li_3240, li_1048575, li_1431655765, li_858993459, li_252645135, eqb_j, ltb_j, leb_j, inb_j, ix_j, ix_n, nz_b, nz_0, nz_1, eqb_b, bnot, vI_ne, vI_eq, gIL, gLI, gIR, gRI, gLR, gRL, Int.reduceLT, Int.reduceLE, Int.reduceEq, Int.reduceAdd, Int.reduceSub, Int.reduceMul, Int.reduceNeg, Int.reduceToNat, Nat.reduceEqDiff, reduceIte, if_neg, if_pos, gI_ne, upS_ne, gI_ne, c13, c14, c16, n1, n2, n3]
    rw [f1.v 58 12 (by omega), s5, hCn.2.2.2.1, w1]
    exact ⟨hCn.1, by first | omega | trivial, by first | omega | trivial, by first | rfl | trivial | omega, by first | rfl | trivial | omega⟩
theorem take_s (m : qM) (d : Nat → Nat → Int) (hC : CAll m d) (a s : Nat) (ha : (a : Int) < d 98 32) (hu : d 125 a = s) (hs : s < 20) : wp (fX4_take (Zi a) m) (fun x m' => x = Zi s ∧ CAll m' (upS d a (-1)) ∧ Fr plP m m') := by
  have hD := DOk.of hC
  have hC' := hC
  obtain ⟨hRu, hPt, hPf, hAp, hWk, hAs, hPa, hCl, hDi, hBi, hCn⟩ := hC'
  obtain ⟨e1, e2, e3, e4⟩ := hAs
  obtain ⟨k1, k2, k3, k4⟩ := e4 a ha
  obtain ⟨f, hf⟩ : ∃ f : Nat, d 123 a = f := ⟨(d 123 a).toNat, by omega⟩
  obtain ⟨t, ht⟩ : ∃ t : Nat, d 124 a = t := ⟨(d 124 a).toNat, by omega⟩
  obtain ⟨u, m1, g1, s1, s2, s3, s4, s5, f1⟩ := mark_s m d hC a s f t ha hs hf ht
  obtain ⟨d0, hd0⟩ : ∃ d0, d0 = upS d a (-1) := ⟨_, rfl⟩
  have dd : upS d0 a s = d := by rw [hd0, upS_up, ← hu, upS_self]
  have q0 : ∀ c k, ¬ c = 125 → d0 c k = d c k := fun c k h => by rw [hd0, upS_ne _ _ _ h]
  have q5 : ∀ k, d0 125 k = if k = a then -1 else d 125 k := fun k => by rw [hd0, upS_eq]
  have ha0 : (a : Int) < d0 98 32 := by rw [q0 98 32 (by omega)]; exact ha
  have hu0 : d0 125 a = -1 := by rw [q5, if_pos rfl]
  have hN : NC d0 a s := by
    intro o h1 h2 h3
    rw [q5, if_neg h2] at h3
    rw [q0 98 32 (by omega)] at h1
    simp (disch := omega) only [q0]
    have := hCl o a h1 ha h2 (by omega) (by omega)
    exact ⟨this.1, this.2.1, fun z => this.2.2 ⟨by rw [z.2]; exact z.1, z.2⟩⟩
  have hD0 : DOk d0 := by
    obtain ⟨x1, x2, x3, x4, x5, x6, x7⟩ := hD
    simp only [DOk]
    simp (disch := omega) only [q0]
    refine ⟨x1, x2, x3, x4, x5, x6, fun o ho => ?_⟩
    have := x7 o ho
    rw [q5]
    refine ⟨this.1, this.2.1, this.2.2.1, ?_⟩
    split <;> omega
  obtain ⟨u1, u2, u3⟩ := up_bits d0 hD0 a s ha0 hu0 hN
  obtain ⟨n1, n2, n3⟩ := up_cnt d0 a s ha0 hu0
  rw [dd] at u1 u2 u3 n1 n2 n3
  have p0 : ptAt d0 a s = ptAt d a s := by
    unfold ptAt
    simp (disch := omega) only [q0]
  rw [p0] at n3
  rw [q0 98 32 (by omega)] at n1 n2 n3
  rw [q0 126 a (by omega)] at n2
  rw [q0 123 a (by omega)] at u1 u3
  rw [q0 124 a (by omega)] at u2
  have l126 : (fun k => isLd d0 k && decide (d0 126 k = 1)) = (fun k => isLd d0 k && decide (d 126 k = 1)) := funext fun k => by rw [q0 126 k (by omega)]
  have l126c : (fun k => isLd d k && decide (d0 126 k = 1)) = (fun k => isLd d k && decide (d 126 k = 1)) := funext fun k => by rw [q0 126 k (by omega)]
  rw [l126, l126c] at n2
  have r1 := ct_r d hD
  have r2 := ptV_r d hD
  have r3 := ptAt_r d hD a s ha
  have r4 := ptV_r d0 hD0
  rw [q0 98 32 (by omega)] at r4
  have pF := hPf f (by omega)
  obtain ⟨b, hb⟩ : ∃ b : Bool, decide (d 119 f ≤ s ∧ (s : Int) ≤ d 120 f) = b := ⟨_, rfl⟩
  have hh : ∀ w, fX11_has (gI m 53 f) (Zi s) w = some (Zi (bI b), w) := fun w => by
    rw [has_s _ s (by omega), pF.2.2.2.2.1 s (by omega), hb]
  have hp : ptAt d a s = if b then 1 + d 121 f else 0 := by
    unfold ptAt
    rw [hf, Int.toNat_natCast, ← hb]
    by_cases g : d 119 f ≤ s ∧ (s : Int) ≤ d 120 f
    · rw [if_pos g, if_pos (decide_eq_true g)]
    · rw [if_neg g, if_neg (by rw [decide_eq_false g]; decide)]
  have c62m : vI m 62 a = s := by rw [k4.1, hu]
  have c59 : vI m1 59 a = f := by rw [f1.v 59 a (by omega), k1.1, hf]
  have c60 : vI m1 60 a = t := by rw [f1.v 60 a (by omega), k2.1, ht]
  have c61 : vI m1 61 a = d 126 a := by rw [f1.v 61 a (by omega), k3.1]
  have c53 : gI m1 53 f = gI m 53 f := f1.1 53 f (by omega)
  have c54 : vI m1 54 f = d 121 f := by rw [f1.v 54 f (by omega), pF.2.2.2.2.2.1]
  have c13 : vI m1 58 13 = fb_ct (fun k => isLd d k) (d 98 32).toNat := by rw [f1.v 58 13 (by omega), hCn.2.1]
  have c14 : vI m1 58 14 = fb_ct (fun k => isLd d k && decide (d 126 k = 1)) (d 98 32).toNat := by rw [f1.v 58 14 (by omega), hCn.2.2.1]
  have c16 : vI m1 58 16 = fb_si (fun k => ptV d k) (d 98 32).toNat := by rw [f1.v 58 16 (by omega), hCn.2.2.2.2]
  have i1 : ((t : Int) * 20 + s).toNat = 20 * t + s := by omega
  obtain ⟨mu, hmu⟩ : ∃ mu : Int, mu = (if d 126 a = 1 then 1 else 0) := ⟨_, rfl⟩
  have hmu2 : 0 ≤ mu ∧ mu ≤ 1 := by rw [hmu]; split <;> omega
  rw [← hmu] at n2
  have pX : fX4_take (Zi a) m = some (Zi s, sI (sI (sI (sI (sI m1 62 a (Zi (-1))) 64 (20 * t + s) (Zi (-1))) 58 13 (Zi (vI m1 58 13 - 1))) 58 14 (Zi (vI m1 58 14 - mu))) 58 16 (Zi (vI m1 58 16 - ptAt d a s))) := by
    rw [fX4_take_d]
    rcases k3.2 with g | g
    · rw [hmu, if_neg (by omega)]
      rw [hp]
      cases b
      · simp (disch := omega) only [fX4_take_0, fX4_take_43, gIv 62, c62m, g1, fX4_pointsIn_d, fX4_pointsIn_0, fX4_pointsIn_20, fX3_wishOf_d, fX3_wishOf_0, fX3_yearsOf_d, fX3_yearsOf_0, qbI_s, qbL_s, qbV_s, qbR_s, qbR_n, qbN_s, qbN_n, qbIX_s, qbIX_n, qbVX_s, qbVX_n, cond_true, cond_false, cond_dec, jadd, jsub, jmul, jneg, li_0, li_1, li_2, li_3, li_4, li_5, li_6, li_7, li_8, li_9, li_10, li_14, li_15, li_16, li_19, li_20, li_24, li_30, li_31, li_32, li_39, li_40, li_48, li_57, li_59, li_60, li_63, li_65, li_80, li_81, li_90, li_97, li_99, li_100, li_122, li_126, li_127, li_150, li_160, li_200, li_225, li_255, li_400, li_799, li_800, li_999, li_2400, li_3239, li_3240, li_1048575, li_1431655765, li_858993459, li_252645135, eqb_j, ltb_j, leb_j, inb_j, ix_j, ix_n, nz_b, nz_0, nz_1, eqb_b, bnot, vI_ne, vI_eq, gIL, gLI, gIR, gRI, gLR, gRL, Int.reduceLT, Int.reduceLE, Int.reduceEq, Int.reduceAdd, Int.reduceSub, Int.reduceMul, Int.reduceNeg, Int.reduceToNat, Nat.reduceEqDiff, reduceIte, if_neg, if_pos, gI_ne, gIv 59, gIv 60, gIv 61, gIv 58, gIv 54, c59, c60, c61, c53, c54, i1, hh, g, show bI false = 0 from rfl, Bool.false_eq_true]
      · simp (disch := omega) only [fX4_take_0, fX4_take_43, gIv 62, c62m, g1, fX4_pointsIn_d, fX4_pointsIn_0, fX4_pointsIn_20, fX3_wishOf_d, fX3_wishOf_0, fX3_yearsOf_d, fX3_yearsOf_0, qbI_s, qbL_s, qbV_s, qbR_s, qbR_n, qbN_s, qbN_n, qbIX_s, qbIX_n, qbVX_s, qbVX_n, cond_true, cond_false, cond_dec, jadd, jsub, jmul, jneg, li_0, li_1, li_2, li_3, li_4, li_5, li_6, li_7, li_8, li_9, li_10, li_14, li_15, li_16, li_19, li_20, li_24, li_30, li_31, li_32, li_39, li_40, li_48, li_57, li_59, li_60, li_63, li_65, li_80, li_81, li_90, li_97, li_99, li_100, li_122, li_126, li_127, li_150, li_160, li_200, li_225, li_255, li_400, li_799, li_800, li_999, li_2400, li_3239, li_3240, li_1048575, li_1431655765, li_858993459, li_252645135, eqb_j, ltb_j, leb_j, inb_j, ix_j, ix_n, nz_b, nz_0, nz_1, eqb_b, bnot, vI_ne, vI_eq, gIL, gLI, gIR, gRI, gLR, gRL, Int.reduceLT, Int.reduceLE, Int.reduceEq, Int.reduceAdd, Int.reduceSub, Int.reduceMul, Int.reduceNeg, Int.reduceToNat, Nat.reduceEqDiff, reduceIte, if_neg, if_pos, gI_ne, gIv 59, gIv 60, gIv 61, gIv 58, gIv 54, c59, c60, c61, c53, c54, i1, hh, g, show bI true = 1 from rfl]
    · rw [hmu, if_pos g]
      rw [hp]
      cases b
      · simp (disch := omega) only [fX4_take_0, fX4_take_43, gIv 62, c62m, g1, fX4_pointsIn_d, fX4_pointsIn_0, fX4_pointsIn_20, fX3_wishOf_d, fX3_wishOf_0, fX3_yearsOf_d, fX3_yearsOf_0, qbI_s, qbL_s, qbV_s, qbR_s, qbR_n, qbN_s, qbN_n, qbIX_s, qbIX_n, qbVX_s, qbVX_n, cond_true, cond_false, cond_dec, jadd, jsub, jmul, jneg, li_0, li_1, li_2, li_3, li_4, li_5, li_6, li_7, li_8, li_9, li_10, li_14, li_15, li_16, li_19, li_20, li_24, li_30, li_31, li_32, li_39, li_40, li_48, li_57, li_59, li_60, li_63, li_65, li_80, li_81, li_90, li_97, li_99, li_100, li_122, li_126, li_127, li_150, li_160, li_200, li_225, li_255, li_400, li_799, li_800, li_999, li_2400, li_3239, li_3240, li_1048575, li_1431655765, li_858993459, li_252645135, eqb_j, ltb_j, leb_j, inb_j, ix_j, ix_n, nz_b, nz_0, nz_1, eqb_b, bnot, vI_ne, vI_eq, gIL, gLI, gIR, gRI, gLR, gRL, Int.reduceLT, Int.reduceLE, Int.reduceEq, Int.reduceAdd, Int.reduceSub, Int.reduceMul, Int.reduceNeg, Int.reduceToNat, Nat.reduceEqDiff, reduceIte, if_neg, if_pos, gI_ne, gIv 59, gIv 60, gIv 61, gIv 58, gIv 54, c59, c60, c61, c53, c54, i1, hh, g, show bI false = 0 from rfl, Bool.false_eq_true]
      · simp (disch := omega) only [fX4_take_0, fX4_take_43, gIv 62, c62m, g1, fX4_pointsIn_d, fX4_pointsIn_0, fX4_pointsIn_20, fX3_wishOf_d, fX3_wishOf_0, fX3_yearsOf_d, fX3_yearsOf_0, qbI_s, qbL_s, qbV_s, qbR_s, qbR_n, qbN_s, qbN_n, qbIX_s, qbIX_n, qbVX_s, qbVX_n, cond_true, cond_false, cond_dec, jadd, jsub, jmul, jneg, li_0, li_1, li_2, li_3, li_4, li_5, li_6, li_7, li_8, li_9, li_10, li_14, li_15, li_16, li_19, li_20, li_24, li_30, li_31, li_32, li_39, li_40, li_48, li_57, li_59, li_60, li_63, li_65, li_80, li_81, li_90, li_97, li_99, li_100, li_122, li_126, li_127, li_150, li_160, li_200, li_225, li_255, li_400, li_799, li_800, li_999, li_2400, li_3239, li_3240, li_1048575, li_1431655765, li_858993459, li_252645135, eqb_j, ltb_j, leb_j, inb_j, ix_j, ix_n, nz_b, nz_0, nz_1, eqb_b, bnot, vI_ne, vI_eq, gIL, gLI, gIR, gRI, gLR, gRL, Int.reduceLT, Int.reduceLE, Int.reduceEq, Int.reduceAdd, Int.reduceSub, Int.reduceMul, Int.reduceNeg, Int.reduceToNat, Nat.reduceEqDiff, reduceIte, if_neg, if_pos, gI_ne, gIv 59, gIv 60, gIv 61, gIv 58, gIv 54, c59, c60, c61, c53, c54, i1, hh, g, show bI true = 1 from rfl]
  have f2 : Fr plP m (sI (sI (sI (sI (sI m1 62 a (Zi (-1))) 64 (20 * t + s) (Zi (-1))) 58 13 (Zi (vI m1 58 13 - 1))) 58 14 (Zi (vI m1 58 14 - mu))) 58 16 (Zi (vI m1 58 16 - ptAt d a s))) := by
    refine Fr.wI (Fr.wI (Fr.wI (Fr.wI (Fr.wI (f1.wide ?_) _ _ _ ?_) _ _ _ ?_) _ _ _ ?_) _ _ _ ?_) _ _ _ ?_
    · intro c k h; unfold plP; omega
    all_goals (unfold plP; omega)
  rw [← hd0]
  refine ⟨_, _, pX, rfl, CAll.step hC f2 q0 (fun o ho => ?_) ?_ ?_ ?_ ?_, f2⟩
  · have k9 := (e4 o ho).2.2.2
    simp (disch := omega) only [qbI_s, qbL_s, qbV_s, qbR_s, qbR_n, qbN_s, qbN_n, qbIX_s, qbIX_n, qbVX_s, qbVX_n, cond_true, cond_false, cond_dec, jadd, jsub, jmul, jneg, li_0, li_1, li_2, li_3, li_4, li_5, li_6, li_7, li_8, li_9, li_10, li_14, li_15, li_16, li_19, li_20, li_24, li_30, li_31, li_32, li_39, li_40, li_48, li_57, li_59, li_60, li_63, li_65, li_80, li_81, li_90, li_97, li_99, li_100, li_122, li_126, li_127, li_150, li_160, li_200, li_225, li_255, li_400, li_799, li_800, li_999, li_2400, li_3239, li_3240, li_1048575, li_1431655765, li_858993459, li_252645135, eqb_j, ltb_j, leb_j, inb_j, ix_j, ix_n, nz_b, nz_0, nz_1, eqb_b, bnot, vI_ne, vI_eq, gIL, gLI, gIR, gRI, gLR, gRL, Int.reduceLT, Int.reduceLE, Int.reduceEq, Int.reduceAdd, Int.reduceSub, Int.reduceMul, Int.reduceNeg, Int.reduceToNat, Nat.reduceEqDiff, reduceIte, if_neg, if_pos, gI_ne, q5, f1.v 62 o]
    by_cases g : o = a
    · rw [if_pos g, if_pos g]; omega
    · rw [if_neg g, if_neg g]; exact k9
  · intro o o2 h1 h2 h3 h4 h5
    simp (disch := omega) only [q0, q5] at h1 h2 h4 h5 ⊢
    have c1 : o ≠ a := fun z => by rw [if_pos z] at h4; exact h4 rfl
    rw [if_neg c1] at h4 h5
    have c2 : o2 ≠ a := fun z => by rw [if_pos z] at h5; exact h4 h5
    rw [if_neg c2] at h5
    exact hCl o o2 h1 h2 h3 h4 h5
  · intro t' s' ht' hs'
    obtain ⟨p1, p2⟩ := hDi t' s' ht' hs'
    simp (disch := omega) only [qbI_s, qbL_s, qbV_s, qbR_s, qbR_n, qbN_s, qbN_n, qbIX_s, qbIX_n, qbVX_s, qbVX_n, cond_true, cond_false, cond_dec, jadd, jsub, jmul, jneg, li_0, li_1, li_2, li_3, li_4, li_5, li_6, li_7, li_8, li_9, li_10, li_14, li_15, li_16, li_19, li_20, li_24, li_30, li_31, li_32, li_39, li_40, li_48, li_57, li_59, li_60, li_63, li_65, li_80, li_81, li_90, li_97, li_99, li_100, li_122, li_126, li_127, li_150, li_160, li_200, li_225, li_255, li_400, li_799, li_800, li_999, li_2400, li_3239, li_3240, li_1048575, li_1431655765, li_858993459, li_252645135, eqb_j, ltb_j, leb_j, inb_j, ix_j, ix_n, nz_b, nz_0, nz_1, eqb_b, bnot, vI_ne, vI_eq, gIL, gLI, gIR, gRI, gLR, gRL, Int.reduceLT, Int.reduceLE, Int.reduceEq, Int.reduceAdd, Int.reduceSub, Int.reduceMul, Int.reduceNeg, Int.reduceToNat, Nat.reduceEqDiff, reduceIte, if_neg, if_pos, gI_ne, q0, q5, f1.v 64]
    refine ⟨fun o h1 h2 h3 => ?_, fun h1 => ?_⟩
    · have c1 : o ≠ a := fun z => by rw [if_pos z] at h3; omega
      rw [if_neg c1] at h3
      rw [if_neg (fun z => (hCl o a h1 ha c1 (by omega) (by omega)).2.1 (by omega))]
      exact p1 o h1 h2 h3
    · by_cases c1 : 20 * t' + s' = 20 * t + s
      · rw [if_pos c1]
      · rw [if_neg c1]
        refine p2 fun o h2 ⟨h3, h4⟩ => h1 o h2 ⟨h3, ?_⟩
        rw [if_neg (fun z => c1 (by rw [z] at h3 h4; omega))]
        exact h4
  · refine ⟨fun f' s' hf' hs' => ?_, fun t' s' ht' hs' => ?_, fun i s' hi hi2 hs' => ?_⟩
    · simp (disch := omega) only [qbI_s, qbL_s, qbV_s, qbR_s, qbR_n, qbN_s, qbN_n, qbIX_s, qbIX_n, qbVX_s, qbVX_n, cond_true, cond_false, cond_dec, jadd, jsub, jmul, jneg, li_0, li_1, li_2, li_3, li_4, li_5, li_6, li_7, li_8, li_9, li_10, li_14, li_15, li_16, li_19, li_20, li_24, li_30, li_31, li_32, li_39, li_40, li_48, li_57, li_59, li_60, li_63, li_65, li_80, li_81, li_90, li_97, li_99, li_100, li_122, li_126, li_127, li_150, li_160, li_200, li_225, li_255, li_400, li_799, li_800, li_999, li_2400, li_3239, li_3240, li_1048575, li_1431655765, li_858993459, li_252645135, eqb_j, ltb_j, leb_j, inb_j, ix_j, ix_n, nz_b, nz_0, nz_1, eqb_b, bnot, vI_ne, vI_eq, gIL, gLI, gIR, gRI, gLR, gRL, Int.reduceLT, Int.reduceLE, Int.reduceEq, Int.reduceAdd, Int.reduceSub, Int.reduceMul, Int.reduceNeg, Int.reduceToNat, Nat.reduceEqDiff, reduceIte, if_neg, if_pos, gI_ne, gI_ne]
      rw [s1 f' s' hf' hs', hBi.1 f' s' hf' hs', u1, hf, decide_eq_decide.mpr (show (f' = f ∧ s' = s) ↔ ((f' : Int) = f ∧ s' = s) by omega), Bool.xor_assoc, Bool.xor_self, Bool.xor_false]
    · simp (disch := omega) only [qbI_s, qbL_s, qbV_s, qbR_s, qbR_n, qbN_s, qbN_n, qbIX_s, qbIX_n, qbVX_s, qbVX_n, cond_true, cond_false, cond_dec, jadd, jsub, jmul, jneg, li_0, li_1, li_2, li_3, li_4, li_5, li_6, li_7, li_8, li_9, li_10, li_14, li_15, li_16, li_19, li_20, li_24, li_30, li_31, li_32, li_39, li_40, li_48, li_57, li_59, li_60, li_63, li_65, li_80, li_81, li_90, li_97, li_99, li_100, li_122, li_126, li_127, li_150, li_160, li_200, li_225, li_255, li_400, li_799, li_800, li_999, li_2400, li_3239, li_3240, li_1048575, li_1431655765, li_858993459, li_252645135, eqb_j, ltb_j, leb_j, inb_j, ix_j, ix_n, nz_b, nz_0, nz_1, eqb_b, bnot, vI_ne, vI_eq, gIL, gLI, gIR, gRI, gLR, gRL, Int.reduceLT, Int.reduceLE, Int.reduceEq, Int.reduceAdd, Int.reduceSub, Int.reduceMul, Int.reduceNeg, Int.reduceToNat, Nat.reduceEqDiff, reduceIte, if_neg, if_pos, gI_ne, gI_ne]
      rw [s3 t' s' ht' hs', hBi.2.1 t' s' ht' hs', u2, ht, decide_eq_decide.mpr (show (t' = t ∧ s' = s) ↔ ((t' : Int) = t ∧ s' = s) by omega), Bool.xor_assoc, Bool.xor_self, Bool.xor_false]
    · simp (disch := omega) only [qbI_s, qbL_s, qbV_s, qbR_s, qbR_n, qbN_s, qbN_n, qbIX_s, qbIX_n, qbVX_s, qbVX_n, cond_true, cond_false, cond_dec, jadd, jsub, jmul, jneg, li_0, li_1, li_2, li_3, li_4, li_5, li_6, li_7, li_8, li_9, li_10, li_14, li_15, li_16, li_19, li_20, li_24, li_30, li_31, li_32, li_39, li_40, li_48, li_57, li_59, li_60, li_63, li_65, li_80, li_81, li_90, li_97, li_99, li_100, li_122, li_126, li_127, li_150, li_160, li_200, li_225, li_255, li_400, li_799, li_800, li_999, li_2400, li_3239, li_3240, li_1048575, li_1431655765, li_858993459, li_252645135, eqb_j, ltb_j, leb_j, inb_j, ix_j, ix_n, nz_b, nz_0, nz_1, eqb_b, bnot, vI_ne, vI_eq, gIL, gLI, gIR, gRI, gLR, gRL, Int.reduceLT, Int.reduceLE, Int.reduceEq, Int.reduceAdd, Int.reduceSub, Int.reduceMul, Int.reduceNeg, Int.reduceToNat, Nat.reduceEqDiff, reduceIte, if_neg, if_pos, gI_ne, gI_ne]
      rw [s4 i s' hi hi2 hs', hBi.2.2 i s' hi hi2 hs', u3 i s' hi, q0 118 _ (by omega), hf, Int.toNat_natCast, Bool.xor_assoc, Bool.xor_self, Bool.xor_false]
  · have w1 := wt_up m m1 f (by omega) s2
    have w2 := wt_r m1
    have l126b : (fun k => decide (d0 126 k = 1)) = (fun k => decide (d 126 k = 1)) := funext fun k => by rw [q0 126 k (by omega)]
    unfold CCnt
    rw [l126, l126b, q0 98 32 (by omega)]
    simp (disch := omega) only [qbI_s, qbL_s, qbV_s, qbR_s, qbR_n, qbN_s, qbN_n, qbIX_s, qbIX_n, qbVX_s, qbVX_n, cond_true, cond_false, cond_dec, jadd, jsub, jmul, jneg, li_0, li_1, li_2, li_3, li_4, li_5, li_6, li_7, li_8, li_9, li_10, li_14, li_15, li_16, li_19, li_20, li_24, li_30, li_31, li_32, li_39, li_40, li_48, li_57, li_59, li_60, li_63, li_65, li_80, li_81, li_90, li_97, li_99, li_100, li_122, li_126, li_127, li_150, li_160, li_200, li_225, li_255, li_400, li_799, li_800, li_999, li_2400, li_3239, li_3240, li_1048575, li_1431655765, li_858993459, li_252645135, eqb_j, ltb_j, leb_j, inb_j, ix_j, ix_n, nz_b, nz_0, nz_1, eqb_b, bnot, vI_ne, vI_eq, gIL, gLI, gIR, gRI, gLR, gRL, Int.reduceLT, Int.reduceLE, Int.reduceEq, Int.reduceAdd, Int.reduceSub, Int.reduceMul, Int.reduceNeg, Int.reduceToNat, Nat.reduceEqDiff, reduceIte, if_neg, if_pos, gI_ne, gI_ne, c13, c14, c16]
    rw [f1.v 58 12 (by omega), s5, hCn.2.2.2.1, w1]
    exact ⟨hCn.1, by first | omega | trivial, by first | omega | trivial, by first | rfl | trivial | omega, by first | rfl | trivial | omega⟩

