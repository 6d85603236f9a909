/-! settle: the class's swaps, and one change -/
theorem slotD {m : qM} {d : Dt} (hC : CAll m d) (a : Nat) (ha : (a : Int) < d 98 32) : fX4_slotOf (Zi a) m = some (Zi (d 125 a), m) := by
  have k4 := (hC.2.2.2.2.2.1.2.2.2 a ha).2.2.2
  have h40 := hC.2.2.2.2.2.1.2.2.1
  rw [fX4_slotOf_d]
  simp (disch := omega) only [fX4_slotOf_0, qbI_s, qbL_s, qbV_s, qbR_s, qbR_n, qbN_s, qbN_n, qbIX_s, qbIX_n, qbVX_s, qbVX_n, cond_true, cond_false, cond_dec, jadd, jsub, jmul, jneg, li_0, li_1, li_2, li_3, li_4, li_5, li_6, li_7, li_8, li_9, li_10, li_14, li_15, li_16, li_19, li_20, li_24, li_30, li_31, li_32, li_39, li_40, li_48, li_57, li_59, li_60, li_63, li_65, li_80, li_81, li_90, li_97, li_99, li_100, li_122, li_126, li_127, li_150, li_160, li_200, li_225, li_255, li_400, li_799, li_800, li_999, li_2400, li_3239, li_3240, li_1048575, li_1431655765, li_858993459, li_252645135, eqb_j, ltb_j, leb_j, inb_j, ix_j, ix_n, nz_b, nz_0, nz_1, eqb_b, bnot, vI_ne, vI_eq, gIL, gLI, gIR, gRI, gLR, gRL, Int.reduceLT, Int.reduceLE, Int.reduceEq, Int.reduceAdd, Int.reduceSub, Int.reduceMul, Int.reduceNeg, Int.reduceToNat, Nat.reduceEqDiff, reduceIte, if_neg, if_pos, gI_ne, gIv 62, k4.1]
theorem famD {m : qM} {d : Dt} (hC : CAll m d) (a : Nat) (ha : (a : Int) < d 98 32) : fX4_familyOf (Zi a) m = some (Zi (d 123 a), m) := by
  have k1 := (hC.2.2.2.2.2.1.2.2.2 a ha).1
  have h40 := hC.2.2.2.2.2.1.2.2.1
  rw [fX4_familyOf_d]
  simp (disch := omega) only [fX4_familyOf_0, qbI_s, qbL_s, qbV_s, qbR_s, qbR_n, qbN_s, qbN_n, qbIX_s, qbIX_n, qbVX_s, qbVX_n, cond_true, cond_false, cond_dec, jadd, jsub, jmul, jneg, li_0, li_1, li_2, li_3, li_4, li_5, li_6, li_7, li_8, li_9, li_10, li_14, li_15, li_16, li_19, li_20, li_24, li_30, li_31, li_32, li_39, li_40, li_48, li_57, li_59, li_60, li_63, li_65, li_80, li_81, li_90, li_97, li_99, li_100, li_122, li_126, li_127, li_150, li_160, li_200, li_225, li_255, li_400, li_799, li_800, li_999, li_2400, li_3239, li_3240, li_1048575, li_1431655765, li_858993459, li_252645135, eqb_j, ltb_j, leb_j, inb_j, ix_j, ix_n, nz_b, nz_0, nz_1, eqb_b, bnot, vI_ne, vI_eq, gIL, gLI, gIR, gRI, gLR, gRL, Int.reduceLT, Int.reduceLE, Int.reduceEq, Int.reduceAdd, Int.reduceSub, Int.reduceMul, Int.reduceNeg, Int.reduceToNat, Nat.reduceEqDiff, reduceIte, if_neg, if_pos, gI_ne, gIv 59, k1.1]
theorem maySwap_s (m : qM) (d : Dt) (hC : CAll m d) (a i s1 s2 : Nat) (ha : (a : Int) < d 98 32) (hi : (i : Int) < d 98 32) (hai : a ≠ i) (h1 : d 125 a = s1) (h2 : d 125 i = s2) (hne : s1 ≠ s2) : wp (fX0_maySwap (Zi a) (Zi i) m) (fun x m' => x = Zi (bI (pd (swB d a i))) ∧ CAll m' d ∧ Fr plP m m') := by
  have hD := DOk.of hC
  have hCl := hC.2.2.2.2.2.2.2.1
  have r1 := (hD.2.2.2.2.2.2 a ha).2.2.2
  have r2 := (hD.2.2.2.2.2.2 i hi).2.2.2
  have q2 : ∀ c k, ¬ c = 125 → sw2 d a i c k = d c k := fun c k hc => by unfold sw2; rw [upS_ne _ _ _ hc, upS_ne _ _ _ hc]
  have ha2 : (a : Int) < sw2 d a i 98 32 := by rw [q2 _ _ (by omega)]; exact ha
  have hi2 : (i : Int) < sw2 d a i 98 32 := by rw [q2 _ _ (by omega)]; exact hi
  have hu2a : sw2 d a i 125 a = -1 := by unfold sw2; rw [upS_eq, if_neg hai, upS_eq, if_pos rfl]
  have hu2i : sw2 d a i 125 i = -1 := by unfold sw2; rw [upS_eq, if_pos rfl]
  obtain ⟨y1, m1, t1, t2, t3, t4⟩ := take_s m d hC a s1 ha h1 (by omega)
  obtain ⟨y2, m2, u1, u2, u3, u4⟩ := take_s m1 _ t3 i s2 (by rw [upS_ne _ _ _ (by omega)]; exact hi) (by rw [upS_eq, if_neg (fun z => hai z.symm)]; exact h2) (by omega)
  have u3' : CAll m2 (sw2 d a i) := u3
  rw [t2] at t1
  rw [u2] at u1
  obtain ⟨x, o1, o2, -⟩ := open_s m2 _ u3' a ha2 hu2a
  have hx := has_s x s2 (by omega) m2
  rw [o2 s2 (by omega)] at hx
  -- both back
  have back : ∀ (w : qM) (z : Bool), CAll w (sw2 d a i) → wp (fX0_maySwap_36 (Zi a) (Zi i) (Zi s1) (Zi s2) (Zi (bI z)) w) (fun x m' => x = Zi (bI z) ∧ CAll m' d ∧ Fr plP w m') := fun w z hw => by
    have n1 : NC (sw2 d a i) a s1 := NC.dn hCl q2 ha h1 (fun o g1 g2 => by
      unfold sw2 at g2
      rw [upS_eq, upS_eq, if_neg g1] at g2
      split at g2
      · omega
      · exact g2)
    obtain ⟨z1, w1, p1, p2, p3⟩ := put_s w _ hw a s1 ha2 hu2a (by omega) n1
    have n2 : NC (upS (sw2 d a i) a s1) i s2 := NC.dn hCl (fun c k hc => by rw [upS_ne _ _ _ hc]; exact q2 c k hc) hi h2 (fun o g1 g2 => by
      rw [upS_eq] at g2
      by_cases e : o = a
      · rw [if_pos e] at g2
        omega
      · rw [if_neg e] at g2
        unfold sw2 at g2
        rw [upS_eq, upS_eq, if_neg g1, if_neg e] at g2
        exact g2)
    obtain ⟨z2, w2, p4, p5, p6⟩ := put_s w1 _ p2 i s2 (by rw [upS_ne _ _ _ (by omega)]; exact hi2) (by rw [upS_eq, if_neg (fun z => hai z.symm)]; exact hu2i) (by omega) n2
    have e5 : upS (upS (sw2 d a i) a s1) i s2 = d := by
      unfold sw2
      refine dt_ext (fun c k hc => by simp only [upS_ne _ _ _ hc]) fun k => ?_
      simp only [upS_eq]
      by_cases ki : k = i
      · rw [if_pos ki, ki, h2]
      · simp only [if_neg ki]
        by_cases ka : k = a
        · rw [if_pos ka, ka, h1]
        · simp only [if_neg ka]
    rw [e5] at p5
    refine wp_e (x := Zi (bI z)) (m := w2) ?_ ⟨rfl, p5, p3.tr p6⟩
    simp (disch := omega) only [fX0_maySwap_36, qbI_s, qbL_s, qbV_s, qbR_s, qbR_n, qbN_s, qbN_n, qbIX_s, qbIX_n, qbVX_s, qbVX_n, cond_true, cond_false, cond_dec, jadd, jsub, jmul, jneg, li_0, li_1, li_2, li_3, li_4, li_5, li_6, li_7, li_8, li_9, li_10, li_14, li_15, li_16, li_19, li_20, li_24, li_30, li_31, li_32, li_39, li_40, li_48, li_57, li_59, li_60, li_63, li_65, li_80, li_81, li_90, li_97, li_99, li_100, li_122, li_126, li_127, li_150, li_160, li_200, li_225, li_255, li_400, li_799, li_800, li_999, li_2400, li_3239, li_3240, li_1048575, li_1431655765, li_858993459, li_252645135, eqb_j, ltb_j, leb_j, inb_j, ix_j, ix_n, nz_b, nz_0, nz_1, eqb_b, bnot, vI_ne, vI_eq, gIL, gLI, gIR, gRI, gLR, gRL, Int.reduceLT, Int.reduceLE, Int.reduceEq, Int.reduceAdd, Int.reduceSub, Int.reduceMul, Int.reduceNeg, Int.reduceToNat, Nat.reduceEqDiff, reduceIte, if_neg, if_pos, gI_ne, p1, p4]
  rw [fX0_maySwap_d]
  cases hb : mbV (sw2 d a i) a s2
  · rw [hb] at hx
    have e : pd (swB d a i) = false := pd_f fun ⟨_, _, _, z, _⟩ => by
      rw [h2, Int.toNat_natCast, hb] at z
      cases z
    obtain ⟨z, w, g1, g2, g3, g4⟩ := back m2 false u3'
    refine wp_e (x := z) (m := w) ?_ ⟨by rw [g2, e], g3, (t4.tr u4).tr g4⟩
    have g1' : fX0_maySwap_36 (Zi a) (Zi i) (Zi s1) (Zi s2) (Zi 0) m2 = some (z, w) := g1
    simp (disch := omega) only [fX0_maySwap_0, qbI_s, qbL_s, qbV_s, qbR_s, qbR_n, qbN_s, qbN_n, qbIX_s, qbIX_n, qbVX_s, qbVX_n, cond_true, cond_false, cond_dec, jadd, jsub, jmul, jneg, li_0, li_1, li_2, li_3, li_4, li_5, li_6, li_7, li_8, li_9, li_10, li_14, li_15, li_16, li_19, li_20, li_24, li_30, li_31, li_32, li_39, li_40, li_48, li_57, li_59, li_60, li_63, li_65, li_80, li_81, li_90, li_97, li_99, li_100, li_122, li_126, li_127, li_150, li_160, li_200, li_225, li_255, li_400, li_799, li_800, li_999, li_2400, li_3239, li_3240, li_1048575, li_1431655765, li_858993459, li_252645135, eqb_j, ltb_j, leb_j, inb_j, ix_j, ix_n, nz_b, nz_0, nz_1, eqb_b, bnot, vI_ne, vI_eq, gIL, gLI, gIR, gRI, gLR, gRL, Int.reduceLT, Int.reduceLE, Int.reduceEq, Int.reduceAdd, Int.reduceSub, Int.reduceMul, Int.reduceNeg, Int.reduceToNat, Nat.reduceEqDiff, reduceIte, if_neg, if_pos, gI_ne, t1, u1, o1, hx, show bI false = 0 from rfl, g1']
  · rw [hb] at hx
    obtain ⟨z3, m3, p1, p2, p3⟩ := put_s m2 _ u3' a s2 ha2 hu2a (by omega) (NC.of_mb hb)
    have hi3 : (i : Int) < upS (sw2 d a i) a s2 98 32 := by rw [upS_ne _ _ _ (by omega)]; exact hi2
    have hu3i : upS (sw2 d a i) a s2 125 i = -1 := by rw [upS_eq, if_neg (fun z => hai z.symm)]; exact hu2i
    obtain ⟨x3, o3, o4, -⟩ := open_s m3 _ p2 i hi3 hu3i
    have hx3 := has_s x3 s1 (by omega) m3
    rw [o4 s1 (by omega)] at hx3
    obtain ⟨z4, m4, v1, v2, v3, v4⟩ := take_s m3 _ p2 a s2 (by rw [upS_ne _ _ _ (by omega)]; exact ha2) (by rw [upS_eq, if_pos rfl]) (by omega)
    have e6 : upS (upS (sw2 d a i) a s2) a (-1) = sw2 d a i := by rw [upS_up, ← hu2a, upS_self]
    rw [e6] at v3
    obtain ⟨z, w, g1, g2, g3, g4⟩ := back m4 (mbV (upS (sw2 d a i) a s2) i s1) v3
    have e : pd (swB d a i) = mbV (upS (sw2 d a i) a s2) i s1 := by
      rw [Bool.eq_iff_iff, pd_iff]
      unfold swB
      rw [h1, h2, Int.toNat_natCast, Int.toNat_natCast]
      exact ⟨fun z => z.2.2.2.2, fun z => ⟨by omega, by omega, by omega, hb, z⟩⟩
    refine wp_e (x := z) (m := w) ?_ ⟨by rw [g2, e], g3, (((t4.tr u4).tr p3).tr v4).tr g4⟩
    simp (disch := omega) only [fX0_maySwap_0, qbI_s, qbL_s, qbV_s, qbR_s, qbR_n, qbN_s, qbN_n, qbIX_s, qbIX_n, qbVX_s, qbVX_n, cond_true, cond_false, cond_dec, jadd, jsub, jmul, jneg, li_0, li_1, li_2, li_3, li_4, li_5, li_6, li_7, li_8, li_9, li_10, li_14, li_15, li_16, li_19, li_20, li_24, li_30, li_31, li_32, li_39, li_40, li_48, li_57, li_59, li_60, li_63, li_65, li_80, li_81, li_90, li_97, li_99, li_100, li_122, li_126, li_127, li_150, li_160, li_200, li_225, li_255, li_400, li_799, li_800, li_999, li_2400, li_3239, li_3240, li_1048575, li_1431655765, li_858993459, li_252645135, eqb_j, ltb_j, leb_j, inb_j, ix_j, ix_n, nz_b, nz_0, nz_1, eqb_b, bnot, vI_ne, vI_eq, gIL, gLI, gIR, gRI, gLR, gRL, Int.reduceLT, Int.reduceLE, Int.reduceEq, Int.reduceAdd, Int.reduceSub, Int.reduceMul, Int.reduceNeg, Int.reduceToNat, Nat.reduceEqDiff, reduceIte, if_neg, if_pos, gI_ne, t1, u1, o1, hx, show bI true = 1 from rfl, p1, o3, hx3, v1, g1]
theorem seekSwaps_s (m : qM) (d : Dt) (b : Cs) (hb : cOK d b) (h : CSt d b m) : wp (fX0_seekSwaps m) (fun _ m' => CSt d (swO d (d 98 32).toNat (d 98 32).toNat 0 b) m' ∧ SF m m') := by
  have hD := DOk.of h.1
  have hCl := h.1.2.2.2.2.2.2.2.1
  have n1 := hD.2.2.2.2.1
  have n2 := hD.2.2.2.2.2.1
  have hr0 := wD_r d hD
  have key11 : ∀ (k2 : Int32 → qM → Option (Unit × qM)) (Q : Unit → qM → Prop) (a : Nat), (a : Int) < d 98 32 → ∀ (r i g : Nat) (w : qM) (b : Cs), a < i → i + r = (d 98 32).toNat → r < g → CSt d b w → cOK d b → SF m w → (∀ w', CSt d (swI d a r i b) w' → SF m w' → wp (k2 (Zi ((a : Int) + 1)) w') Q) → wp (fX0_seekSwaps_11 k2 g (Zi a) (Zi i) w) Q := by
    intro k2 Q a ha r
    induction r with
    | zero =>
      intro i g w b hai hi hg hw hb hF hk
      obtain ⟨g, rfl⟩ : ∃ g', g = g' + 1 := ⟨g - 1, by omega⟩
      have h11 := hw.1.2.2.2.2.2.1.1
      simp (disch := omega) only [fX0_seekSwaps_11, fX4_asks_d, fX4_asks_0, qbI_s, qbL_s, qbV_s, qbR_s, qbR_n, qbN_s, qbN_n, qbIX_s, qbIX_n, qbVX_s, qbVX_n, cond_true, cond_false, cond_dec, jadd, jsub, jmul, jneg, li_0, li_1, li_2, li_3, li_4, li_5, li_6, li_7, li_8, li_9, li_10, li_14, li_15, li_16, li_19, li_20, li_24, li_30, li_31, li_32, li_39, li_40, li_48, li_57, li_59, li_60, li_63, li_65, li_80, li_81, li_90, li_97, li_99, li_100, li_122, li_126, li_127, li_150, li_160, li_200, li_225, li_255, li_400, li_799, li_800, li_999, li_2400, li_3239, li_3240, li_1048575, li_1431655765, li_858993459, li_252645135, eqb_j, ltb_j, leb_j, inb_j, ix_j, ix_n, nz_b, nz_0, nz_1, eqb_b, bnot, vI_ne, vI_eq, gIL, gLI, gIR, gRI, gLR, gRL, Int.reduceLT, Int.reduceLE, Int.reduceEq, Int.reduceAdd, Int.reduceSub, Int.reduceMul, Int.reduceNeg, Int.reduceToNat, Nat.reduceEqDiff, reduceIte, if_neg, if_pos, gI_ne, gIv 58, h11]
      exact hk w hw hF
    | succ r ih =>
      intro i g w b hai hi hg hw hb hF hk
      obtain ⟨g, rfl⟩ : ∃ g', g = g' + 1 := ⟨g - 1, by omega⟩
      have h11 := hw.1.2.2.2.2.2.1.1
      have hi' : (i : Int) < d 98 32 := by omega
      have lda := laidD w d hw.1.2.2.2.2.2.1 a ha
      have ldi := laidD w d hw.1.2.2.2.2.2.1 i hi'
      have ra := (hD.2.2.2.2.2.2 a ha).2.2.2
      have ri := (hD.2.2.2.2.2.2 i hi').2.2.2
      have rfa := (hD.2.2.2.2.2.2 a ha).1
      have rfi := (hD.2.2.2.2.2.2 i hi').1
      have br := hb.r hD hCl
      rw [swI] at hk
      -- the pair is passed over
      have skip : (pd (swB d a i) = true → wD (swD d a i) ≤ b.1) → wp (fX0_seekSwaps_11 k2 g (Zi a) (Zi ((i : Int) + 1)) w) Q := fun hs => by
        have e : (if pd (swB d a i) = true then stC (swD d a i) a i (-1) b else b) = b := by
          by_cases z : pd (swB d a i) = true
          · have := hs z
            rw [if_pos z, stC, if_neg (by omega)]
          · rw [if_neg z]
        rw [e] at hk
        exact ih (i + 1) g w b (by omega) (by omega) (by omega) hw hb hF hk
      by_cases la : d 125 a = -1
      · rw [show isLd d a = false from decide_eq_false (fun z => z la)] at lda
        simp (disch := omega) only [fX0_seekSwaps_11, fX0_seekSwaps_69, fX4_asks_d, fX4_asks_0, qbI_s, qbL_s, qbV_s, qbR_s, qbR_n, qbN_s, qbN_n, qbIX_s, qbIX_n, qbVX_s, qbVX_n, cond_true, cond_false, cond_dec, jadd, jsub, jmul, jneg, li_0, li_1, li_2, li_3, li_4, li_5, li_6, li_7, li_8, li_9, li_10, li_14, li_15, li_16, li_19, li_20, li_24, li_30, li_31, li_32, li_39, li_40, li_48, li_57, li_59, li_60, li_63, li_65, li_80, li_81, li_90, li_97, li_99, li_100, li_122, li_126, li_127, li_150, li_160, li_200, li_225, li_255, li_400, li_799, li_800, li_999, li_2400, li_3239, li_3240, li_1048575, li_1431655765, li_858993459, li_252645135, eqb_j, ltb_j, leb_j, inb_j, ix_j, ix_n, nz_b, nz_0, nz_1, eqb_b, bnot, vI_ne, vI_eq, gIL, gLI, gIR, gRI, gLR, gRL, Int.reduceLT, Int.reduceLE, Int.reduceEq, Int.reduceAdd, Int.reduceSub, Int.reduceMul, Int.reduceNeg, Int.reduceToNat, Nat.reduceEqDiff, reduceIte, if_neg, if_pos, gI_ne, gIv 58, h11, lda, show bI false = 0 from rfl]
        exact skip fun z => absurd la (pd_iff.mp z).1
      · rw [show isLd d a = true from decide_eq_true la] at lda
        by_cases li : d 125 i = -1
        · rw [show isLd d i = false from decide_eq_false (fun z => z li)] at ldi
          simp (disch := omega) only [fX0_seekSwaps_11, fX0_seekSwaps_69, fX4_asks_d, fX4_asks_0, qbI_s, qbL_s, qbV_s, qbR_s, qbR_n, qbN_s, qbN_n, qbIX_s, qbIX_n, qbVX_s, qbVX_n, cond_true, cond_false, cond_dec, jadd, jsub, jmul, jneg, li_0, li_1, li_2, li_3, li_4, li_5, li_6, li_7, li_8, li_9, li_10, li_14, li_15, li_16, li_19, li_20, li_24, li_30, li_31, li_32, li_39, li_40, li_48, li_57, li_59, li_60, li_63, li_65, li_80, li_81, li_90, li_97, li_99, li_100, li_122, li_126, li_127, li_150, li_160, li_200, li_225, li_255, li_400, li_799, li_800, li_999, li_2400, li_3239, li_3240, li_1048575, li_1431655765, li_858993459, li_252645135, eqb_j, ltb_j, leb_j, inb_j, ix_j, ix_n, nz_b, nz_0, nz_1, eqb_b, bnot, vI_ne, vI_eq, gIL, gLI, gIR, gRI, gLR, gRL, Int.reduceLT, Int.reduceLE, Int.reduceEq, Int.reduceAdd, Int.reduceSub, Int.reduceMul, Int.reduceNeg, Int.reduceToNat, Nat.reduceEqDiff, reduceIte, if_neg, if_pos, gI_ne, gIv 58, h11, lda, ldi, show bI false = 0 from rfl, show bI true = 1 from rfl]
          exact skip fun z => absurd li (pd_iff.mp z).2.1
        · rw [show isLd d i = true from decide_eq_true li] at ldi
          obtain ⟨s1, hs1⟩ : ∃ s1 : Nat, d 125 a = s1 := ⟨(d 125 a).toNat, by omega⟩
          obtain ⟨s2, hs2⟩ : ∃ s2 : Nat, d 125 i = s2 := ⟨(d 125 i).toNat, by omega⟩
          have fa := famD hw.1 a ha
          have fi := famD hw.1 i hi'
          have sa := slotD hw.1 a ha
          have si := slotD hw.1 i hi'
          rw [hs1] at sa
          rw [hs2] at si
          by_cases hf : d 123 a = d 123 i
          · rw [← hf] at fi
            simp (disch := omega) only [fX0_seekSwaps_11, fX0_seekSwaps_69, fX4_asks_d, fX4_asks_0, qbI_s, qbL_s, qbV_s, qbR_s, qbR_n, qbN_s, qbN_n, qbIX_s, qbIX_n, qbVX_s, qbVX_n, cond_true, cond_false, cond_dec, jadd, jsub, jmul, jneg, li_0, li_1, li_2, li_3, li_4, li_5, li_6, li_7, li_8, li_9, li_10, li_14, li_15, li_16, li_19, li_20, li_24, li_30, li_31, li_32, li_39, li_40, li_48, li_57, li_59, li_60, li_63, li_65, li_80, li_81, li_90, li_97, li_99, li_100, li_122, li_126, li_127, li_150, li_160, li_200, li_225, li_255, li_400, li_799, li_800, li_999, li_2400, li_3239, li_3240, li_1048575, li_1431655765, li_858993459, li_252645135, eqb_j, ltb_j, leb_j, inb_j, ix_j, ix_n, nz_b, nz_0, nz_1, eqb_b, bnot, vI_ne, vI_eq, gIL, gLI, gIR, gRI, gLR, gRL, Int.reduceLT, Int.reduceLE, Int.reduceEq, Int.reduceAdd, Int.reduceSub, Int.reduceMul, Int.reduceNeg, Int.reduceToNat, Nat.reduceEqDiff, reduceIte, if_neg, if_pos, gI_ne, gIv 58, h11, lda, ldi, show bI true = 1 from rfl, fa, fi]
            exact skip fun z => by
              rw [(sw_worth hD hCl ha hi' (by omega) hs1 hs2 (pd_iff.mp z)).2.2 hf]
              omega
          · have g1 := gainL_s w d hw.1 a s2 s1 ha hs1 (by omega)
            have g2 := gainL_s w d hw.1 i s1 s2 hi' hs2 (by omega)
            have r1 := gnL_r d hD a s2 s1 ha
            have r2 := gnL_r d hD i s1 s2 hi'
            by_cases c : gnL d a s2 s1 + gnL d i s1 s2 ≤ b.1 - wD d
            · simp (disch := omega) only [fX0_seekSwaps_11, fX0_seekSwaps_69, fX4_asks_d, fX4_asks_0, qbI_s, qbL_s, qbV_s, qbR_s, qbR_n, qbN_s, qbN_n, qbIX_s, qbIX_n, qbVX_s, qbVX_n, cond_true, cond_false, cond_dec, jadd, jsub, jmul, jneg, li_0, li_1, li_2, li_3, li_4, li_5, li_6, li_7, li_8, li_9, li_10, li_14, li_15, li_16, li_19, li_20, li_24, li_30, li_31, li_32, li_39, li_40, li_48, li_57, li_59, li_60, li_63, li_65, li_80, li_81, li_90, li_97, li_99, li_100, li_122, li_126, li_127, li_150, li_160, li_200, li_225, li_255, li_400, li_799, li_800, li_999, li_2400, li_3239, li_3240, li_1048575, li_1431655765, li_858993459, li_252645135, eqb_j, ltb_j, leb_j, inb_j, ix_j, ix_n, nz_b, nz_0, nz_1, eqb_b, bnot, vI_ne, vI_eq, gIL, gLI, gIR, gRI, gLR, gRL, Int.reduceLT, Int.reduceLE, Int.reduceEq, Int.reduceAdd, Int.reduceSub, Int.reduceMul, Int.reduceNeg, Int.reduceToNat, Nat.reduceEqDiff, reduceIte, if_neg, if_pos, gI_ne, ll_0, ll_1, ll_3, ll_5, ll_9, ll_10, ll_13, ll_14, ll_19, ll_20, ll_32, ll_60, ll_126, ll_799, ll_1024, ll_1048576, ll_67108864, Zladd, Zlsub, Zlmul, Zlneg, toL, lg_lt, lg_gt, lg_le, gIv 58, h11, lda, ldi, show bI true = 1 from rfl, fa, fi, sa, si, g1, g2, hw.2.1]
              exact skip fun z => by
                have := (sw_worth hD hCl ha hi' (by omega) hs1 hs2 (pd_iff.mp z)).2.1 hf
                omega
            · have hss : s1 ≠ s2 := fun z => by
                rw [← z] at hs2
                have z1 := gnL_self ha hs1 rfa.1
                have z2 := gnL_self hi' hs2 rfi.1
                rw [← z, z1, z2] at c
                omega
              obtain ⟨x, w1, e1, e2, e3, e4⟩ := maySwap_s w d hw.1 a i s1 s2 ha hi' (by omega) hs1 hs2 hss
              rw [e2] at e1
              have hw1 := hw.fr e3 e4
              by_cases hB : swB d a i
              · have wd := (sw_worth hD hCl ha hi' (by omega) hs1 hs2 hB).2.1 hf
                rw [pd_t hB] at e1 hk
                rw [if_pos rfl] at hk
                obtain ⟨y, w2, p1, p2, p3⟩ := keepC_s w1 d (swD d a i) a i (-1) b (by omega) (by omega) (by omega) hw1 (by omega)
                rw [show wD (swD d a i) - wD d = gnL d a s2 s1 + gnL d i s1 s2 by omega] at p1
                have nx := ih (i + 1) g w2 _ (by omega) (by omega) (by omega) p2 (stC_sw hb a i ha hi' (by omega) hB) ((hF.tr (SF.of e4)).tr p3) hk
                simp (disch := omega) only [fX0_seekSwaps_11, fX0_seekSwaps_69, fX4_asks_d, fX4_asks_0, qbI_s, qbL_s, qbV_s, qbR_s, qbR_n, qbN_s, qbN_n, qbIX_s, qbIX_n, qbVX_s, qbVX_n, cond_true, cond_false, cond_dec, jadd, jsub, jmul, jneg, li_0, li_1, li_2, li_3, li_4, li_5, li_6, li_7, li_8, li_9, li_10, li_14, li_15, li_16, li_19, li_20, li_24, li_30, li_31, li_32, li_39, li_40, li_48, li_57, li_59, li_60, li_63, li_65, li_80, li_81, li_90, li_97, li_99, li_100, li_122, li_126, li_127, li_150, li_160, li_200, li_225, li_255, li_400, li_799, li_800, li_999, li_2400, li_3239, li_3240, li_1048575, li_1431655765, li_858993459, li_252645135, eqb_j, ltb_j, leb_j, inb_j, ix_j, ix_n, nz_b, nz_0, nz_1, eqb_b, bnot, vI_ne, vI_eq, gIL, gLI, gIR, gRI, gLR, gRL, Int.reduceLT, Int.reduceLE, Int.reduceEq, Int.reduceAdd, Int.reduceSub, Int.reduceMul, Int.reduceNeg, Int.reduceToNat, Nat.reduceEqDiff, reduceIte, if_neg, if_pos, gI_ne, ll_0, ll_1, ll_3, ll_5, ll_9, ll_10, ll_13, ll_14, ll_19, ll_20, ll_32, ll_60, ll_126, ll_799, ll_1024, ll_1048576, ll_67108864, Zladd, Zlsub, Zlmul, Zlneg, toL, lg_lt, lg_gt, lg_le, gIv 58, h11, lda, ldi, show bI true = 1 from rfl, fa, fi, sa, si, g1, g2, hw.2.1, e1, show (-1 : Int32) = Zi (-1) from rfl, p1]
                exact nx
              · rw [pd_f hB] at e1 hk
                rw [if_neg (by decide)] at hk
                have nx := ih (i + 1) g w1 b (by omega) (by omega) (by omega) hw1 hb (hF.tr (SF.of e4)) hk
                simp (disch := omega) only [fX0_seekSwaps_11, fX0_seekSwaps_69, fX4_asks_d, fX4_asks_0, qbI_s, qbL_s, qbV_s, qbR_s, qbR_n, qbN_s, qbN_n, qbIX_s, qbIX_n, qbVX_s, qbVX_n, cond_true, cond_false, cond_dec, jadd, jsub, jmul, jneg, li_0, li_1, li_2, li_3, li_4, li_5, li_6, li_7, li_8, li_9, li_10, li_14, li_15, li_16, li_19, li_20, li_24, li_30, li_31, li_32, li_39, li_40, li_48, li_57, li_59, li_60, li_63, li_65, li_80, li_81, li_90, li_97, li_99, li_100, li_122, li_126, li_127, li_150, li_160, li_200, li_225, li_255, li_400, li_799, li_800, li_999, li_2400, li_3239, li_3240, li_1048575, li_1431655765, li_858993459, li_252645135, eqb_j, ltb_j, leb_j, inb_j, ix_j, ix_n, nz_b, nz_0, nz_1, eqb_b, bnot, vI_ne, vI_eq, gIL, gLI, gIR, gRI, gLR, gRL, Int.reduceLT, Int.reduceLE, Int.reduceEq, Int.reduceAdd, Int.reduceSub, Int.reduceMul, Int.reduceNeg, Int.reduceToNat, Nat.reduceEqDiff, reduceIte, if_neg, if_pos, gI_ne, ll_0, ll_1, ll_3, ll_5, ll_9, ll_10, ll_13, ll_14, ll_19, ll_20, ll_32, ll_60, ll_126, ll_799, ll_1024, ll_1048576, ll_67108864, Zladd, Zlsub, Zlmul, Zlneg, toL, lg_lt, lg_gt, lg_le, gIv 58, h11, lda, ldi, show bI true = 1 from rfl, show bI false = 0 from rfl, fa, fi, sa, si, g1, g2, hw.2.1, e1]
                exact nx
  have key2 : ∀ (r a g : Nat) (w : qM) (b : Cs), a + r = (d 98 32).toNat → r < g → CSt d b w → cOK d b → SF m w → wp (fX0_seekSwaps_2 g (Zi a) w) (fun _ m' => CSt d (swO d (d 98 32).toNat r a b) m' ∧ SF m m') := by
    intro r
    induction r with
    | zero =>
      intro i g w b hi hg hw hb hF
      obtain ⟨g, rfl⟩ : ∃ g', g = g' + 1 := ⟨g - 1, by omega⟩
      have h11 := hw.1.2.2.2.2.2.1.1
      refine wp_e (x := ()) (m := w) ?_ ⟨hw, hF⟩
      simp (disch := omega) only [fX0_seekSwaps_2, fX4_asks_d, fX4_asks_0, qbI_s, qbL_s, qbV_s, qbR_s, qbR_n, qbN_s, qbN_n, qbIX_s, qbIX_n, qbVX_s, qbVX_n, cond_true, cond_false, cond_dec, jadd, jsub, jmul, jneg, li_0, li_1, li_2, li_3, li_4, li_5, li_6, li_7, li_8, li_9, li_10, li_14, li_15, li_16, li_19, li_20, li_24, li_30, li_31, li_32, li_39, li_40, li_48, li_57, li_59, li_60, li_63, li_65, li_80, li_81, li_90, li_97, li_99, li_100, li_122, li_126, li_127, li_150, li_160, li_200, li_225, li_255, li_400, li_799, li_800, li_999, li_2400, li_3239, li_3240, li_1048575, li_1431655765, li_858993459, li_252645135, eqb_j, ltb_j, leb_j, inb_j, ix_j, ix_n, nz_b, nz_0, nz_1, eqb_b, bnot, vI_ne, vI_eq, gIL, gLI, gIR, gRI, gLR, gRL, Int.reduceLT, Int.reduceLE, Int.reduceEq, Int.reduceAdd, Int.reduceSub, Int.reduceMul, Int.reduceNeg, Int.reduceToNat, Nat.reduceEqDiff, reduceIte, if_neg, if_pos, gI_ne, gIv 58, h11]
    | succ r ih =>
      intro a g w b hi hg hw hb hF
      obtain ⟨g, rfl⟩ : ∃ g', g = g' + 1 := ⟨g - 1, by omega⟩
      have h11 := hw.1.2.2.2.2.2.1.1
      rw [swO]
      have k11 := key11 (fX0_seekSwaps_2 g) (fun _ m' => CSt d (swO d (d 98 32).toNat r (a + 1) (swI d a ((d 98 32).toNat - (a + 1)) (a + 1) b)) m' ∧ SF m m') a (by omega) ((d 98 32).toNat - (a + 1)) (a + 1) FU w b (by omega) (by omega) (by rw [FU_d]; omega) hw hb hF (fun w' h1 h2 => ih (a + 1) g w' _ (by omega) (by omega) h1 (swI_ok a (by omega) _ (a + 1) b (by omega) (by omega) hb) h2)
      simp (disch := omega) only [fX0_seekSwaps_2, fX4_asks_d, fX4_asks_0, qbI_s, qbL_s, qbV_s, qbR_s, qbR_n, qbN_s, qbN_n, qbIX_s, qbIX_n, qbVX_s, qbVX_n, cond_true, cond_false, cond_dec, jadd, jsub, jmul, jneg, li_0, li_1, li_2, li_3, li_4, li_5, li_6, li_7, li_8, li_9, li_10, li_14, li_15, li_16, li_19, li_20, li_24, li_30, li_31, li_32, li_39, li_40, li_48, li_57, li_59, li_60, li_63, li_65, li_80, li_81, li_90, li_97, li_99, li_100, li_122, li_126, li_127, li_150, li_160, li_200, li_225, li_255, li_400, li_799, li_800, li_999, li_2400, li_3239, li_3240, li_1048575, li_1431655765, li_858993459, li_252645135, eqb_j, ltb_j, leb_j, inb_j, ix_j, ix_n, nz_b, nz_0, nz_1, eqb_b, bnot, vI_ne, vI_eq, gIL, gLI, gIR, gRI, gLR, gRL, Int.reduceLT, Int.reduceLE, Int.reduceEq, Int.reduceAdd, Int.reduceSub, Int.reduceMul, Int.reduceNeg, Int.reduceToNat, Nat.reduceEqDiff, reduceIte, if_neg, if_pos, gI_ne, gIv 58, h11]
      exact k11
  rw [fX0_seekSwaps_d]
  simp only [fX0_seekSwaps_0]
  exact key2 (d 98 32).toNat 0 FU m b (by omega) (by rw [FU_d]; omega) h hb (SF.rf m)
theorem lg_eq {a b : Int} (h : -9223372036854775808 ≤ a ∧ a < 9223372036854775808 ∧ -9223372036854775808 ≤ b ∧ b < 9223372036854775808) : eqb (lg_cmp (Zl a) (Zl b)) (Zi 0) = decide (a = b) := by
  rw [eqb_d, show Zi 0 = (0 : Int32) from rfl]
  simp only [lg_cmp_eq]
  refine decide_eq_decide.mpr ⟨fun z => ?_, fun z => by rw [z]⟩
  have := congrArg Int64.toInt z
  rw [Zlt (by omega), Zlt (by omega)] at this
  exact this
theorem changeOnce_s (m : qM) (d : Dt) (hC : CAll m d) : wp (fX0_changeOnce m) (fun x m' => x = Zi (bI (decide (wD d < (passC d).1))) ∧ CAll m' (passC d).2.1 ∧ SF m m') := by
  have hD := DOk.of hC
  have hCl := hC.2.2.2.2.2.2.2.1
  have h0 := hD.2.2.2.2.1
  have n2 := hD.2.2.2.2.2.1
  have hr0 := wD_r d hD
  have C0 : CSt d (wD d, d, -1, -1, -1) (sL m 68 13 (Zl 0)) := ⟨hC.congr (fun c k hc => by rw [gI_sL]) (fun _ _ _ => rfl), by rw [gL_sL, if_pos ⟨rfl, rfl⟩]; exact congrArg Zl (by show (0 : Int) = wD d - wD d; omega), fun h => absurd h (by show ¬ wD d < wD d; omega)⟩
  have S0 : SF m (sL m 68 13 (Zl 0)) := ⟨fun c k hc => by rw [gI_sL], by rw [gR_sL]⟩
  obtain ⟨x1, m1, e1, C1, S1⟩ := seekPuts_s false _ d _ (Or.inl rfl) C0
  have o1 : cOK d (mvA d false (d 98 32).toNat 0 (wD d, d, -1, -1, -1)) := mvA_ok false _ 0 _ (by omega) (Or.inl rfl)
  obtain ⟨x2, m2, e2, C2, S2⟩ := seekPuts_s true m1 d _ o1 C1
  have o2 := mvA_ok (d := d) true (d 98 32).toNat 0 _ (by omega) o1
  obtain ⟨x3, m3, e3, C3, S3⟩ := seekSwaps_s m2 d _ o2 C2
  have o3 := passC_ok hD
  have C3' : CSt d (passC d) m3 := C3
  have SA : SF m m3 := ((S0.tr S1).tr S2).tr S3
  have e1' : fX0_seekPuts (Zi 0) (sL m 68 13 (Zl 0)) = some (x1, m1) := e1
  have e2' : fX0_seekPuts (Zi 1) m1 = some (x2, m2) := e2
  have br := o3.r hD hCl
  generalize passC d = b at *
  obtain ⟨c1, c2, c3⟩ := C3'
  have lq := lg_eq (a := b.1 - wD d) (b := 0) (by omega)
  rw [fX0_changeOnce_d]
  rcases o3 with ho | ⟨hlt, ho⟩
  · have hb1 : b.1 = wD d := by rw [ho]
    have hb2 : b.2.1 = d := by rw [ho]
    rw [decide_eq_true (show b.1 - wD d = 0 by omega)] at lq
    refine wp_e (x := Zi 0) (m := m3) ?_ ⟨by rw [decide_eq_false (show ¬ wD d < b.1 by omega)]; rfl, by rw [hb2]; exact c1, SA⟩
    simp (disch := omega) only [fX0_changeOnce_0, qbI_s, qbL_s, qbV_s, qbR_s, qbR_n, qbN_s, qbN_n, qbIX_s, qbIX_n, qbVX_s, qbVX_n, cond_true, cond_false, cond_dec, jadd, jsub, jmul, jneg, li_0, li_1, li_2, li_3, li_4, li_5, li_6, li_7, li_8, li_9, li_10, li_14, li_15, li_16, li_19, li_20, li_24, li_30, li_31, li_32, li_39, li_40, li_48, li_57, li_59, li_60, li_63, li_65, li_80, li_81, li_90, li_97, li_99, li_100, li_122, li_126, li_127, li_150, li_160, li_200, li_225, li_255, li_400, li_799, li_800, li_999, li_2400, li_3239, li_3240, li_1048575, li_1431655765, li_858993459, li_252645135, eqb_j, ltb_j, leb_j, inb_j, ix_j, ix_n, nz_b, nz_0, nz_1, eqb_b, bnot, vI_ne, vI_eq, gIL, gLI, gIR, gRI, gLR, gRL, Int.reduceLT, Int.reduceLE, Int.reduceEq, Int.reduceAdd, Int.reduceSub, Int.reduceMul, Int.reduceNeg, Int.reduceToNat, Nat.reduceEqDiff, reduceIte, if_neg, if_pos, gI_ne, ll_0, ll_1, ll_3, ll_5, ll_9, ll_10, ll_13, ll_14, ll_19, ll_20, ll_32, ll_60, ll_126, ll_799, ll_1024, ll_1048576, ll_67108864, Zladd, Zlsub, Zlmul, Zlneg, toL, lg_lt, lg_gt, lg_le, e1', e2', e3, c2, lq]
  · rw [decide_eq_false (show ¬ b.1 - wD d = 0 by omega)] at lq
    obtain ⟨d1, d2, d3⟩ := c3 hlt
    have hres : Zi 1 = Zi (bI (decide (wD d < b.1))) := by rw [decide_eq_true hlt]; rfl
    rcases ho with ho | ho
    · obtain ⟨a, s, g1, g2, g3, g4⟩ := ho
      rw [g4] at d1 d2 d3
      have d1' : vI m3 68 10 = a := d1
      have d2' : vI m3 68 11 = -1 := d2
      have d3' : vI m3 68 12 = s := d3 rfl
      have hb2 : b.2.1 = upS d a s := by rw [g4]
      have ld := laidD m3 d c1.2.2.2.2.2.1 a g1
      have sr := (hD.2.2.2.2.2.2 a g1).2.2.2
      rw [hb2]
      by_cases hl : d 125 a = -1
      · rw [show isLd d a = false from decide_eq_false (fun z => z hl)] at ld
        rw [show upS d a (-1) = d by rw [← hl, upS_self]] at g3
        obtain ⟨z, m4, p1, p2, p3⟩ := put_s m3 d c1 a s g1 hl g2 (NC.of_mb g3)
        refine wp_e (x := Zi 1) (m := m4) ?_ ⟨hres, p2, SA.tr (SF.of p3)⟩
        simp (disch := omega) only [fX0_changeOnce_0, fX0_changeOnce_42, qbI_s, qbL_s, qbV_s, qbR_s, qbR_n, qbN_s, qbN_n, qbIX_s, qbIX_n, qbVX_s, qbVX_n, cond_true, cond_false, cond_dec, jadd, jsub, jmul, jneg, li_0, li_1, li_2, li_3, li_4, li_5, li_6, li_7, li_8, li_9, li_10, li_14, li_15, li_16, li_19, li_20, li_24, li_30, li_31, li_32, li_39, li_40, li_48, li_57, li_59, li_60, li_63, li_65, li_80, li_81, li_90, li_97, li_99, li_100, li_122, li_126, li_127, li_150, li_160, li_200, li_225, li_255, li_400, li_799, li_800, li_999, li_2400, li_3239, li_3240, li_1048575, li_1431655765, li_858993459, li_252645135, eqb_j, ltb_j, leb_j, inb_j, ix_j, ix_n, nz_b, nz_0, nz_1, eqb_b, bnot, vI_ne, vI_eq, gIL, gLI, gIR, gRI, gLR, gRL, Int.reduceLT, Int.reduceLE, Int.reduceEq, Int.reduceAdd, Int.reduceSub, Int.reduceMul, Int.reduceNeg, Int.reduceToNat, Nat.reduceEqDiff, reduceIte, if_neg, if_pos, gI_ne, ll_0, ll_1, ll_3, ll_5, ll_9, ll_10, ll_13, ll_14, ll_19, ll_20, ll_32, ll_60, ll_126, ll_799, ll_1024, ll_1048576, ll_67108864, Zladd, Zlsub, Zlmul, Zlneg, toL, lg_lt, lg_gt, lg_le, e1', e2', e3, c2, lq, gIv 68, d1', d2', d3', ld, show bI false = 0 from rfl, p1, show (-1 : Int32) = Zi (-1) from rfl]
      · rw [show isLd d a = true from decide_eq_true hl] at ld
        obtain ⟨s0, hs0⟩ : ∃ s0 : Nat, d 125 a = s0 := ⟨(d 125 a).toNat, by omega⟩
        obtain ⟨y, m4, t1, t2, t3, t4⟩ := take_s m3 d c1 a s0 g1 hs0 (by omega)
        obtain ⟨z, m5, p1, p2, p3⟩ := put_s m4 _ t3 a s (by rw [upS_ne _ _ _ (by omega)]; exact g1) (by rw [upS_eq, if_pos rfl]) g2 (NC.of_mb g3)
        rw [upS_up] at p2
        have r4 : ∀ k, 5 ≤ k → vI m4 68 k = vI m3 68 k := fun k hk => t4.v 68 k (by unfold plP; omega)
        have d1'' := (r4 10 (by omega)).trans d1'
        have d3'' := (r4 12 (by omega)).trans d3'
        refine wp_e (x := Zi 1) (m := m5) ?_ ⟨hres, p2, (SA.tr (SF.of t4)).tr (SF.of p3)⟩
        simp (disch := omega) only [fX0_changeOnce_0, fX0_changeOnce_42, qbI_s, qbL_s, qbV_s, qbR_s, qbR_n, qbN_s, qbN_n, qbIX_s, qbIX_n, qbVX_s, qbVX_n, cond_true, cond_false, cond_dec, jadd, jsub, jmul, jneg, li_0, li_1, li_2, li_3, li_4, li_5, li_6, li_7, li_8, li_9, li_10, li_14, li_15, li_16, li_19, li_20, li_24, li_30, li_31, li_32, li_39, li_40, li_48, li_57, li_59, li_60, li_63, li_65, li_80, li_81, li_90, li_97, li_99, li_100, li_122, li_126, li_127, li_150, li_160, li_200, li_225, li_255, li_400, li_799, li_800, li_999, li_2400, li_3239, li_3240, li_1048575, li_1431655765, li_858993459, li_252645135, eqb_j, ltb_j, leb_j, inb_j, ix_j, ix_n, nz_b, nz_0, nz_1, eqb_b, bnot, vI_ne, vI_eq, gIL, gLI, gIR, gRI, gLR, gRL, Int.reduceLT, Int.reduceLE, Int.reduceEq, Int.reduceAdd, Int.reduceSub, Int.reduceMul, Int.reduceNeg, Int.reduceToNat, Nat.reduceEqDiff, reduceIte, if_neg, if_pos, gI_ne, ll_0, ll_1, ll_3, ll_5, ll_9, ll_10, ll_13, ll_14, ll_19, ll_20, ll_32, ll_60, ll_126, ll_799, ll_1024, ll_1048576, ll_67108864, Zladd, Zlsub, Zlmul, Zlneg, toL, lg_lt, lg_gt, lg_le, e1', e2', e3, c2, lq, gIv 68, d1', d2', d3', ld, show bI true = 1 from rfl, t1, d1'', d3'', p1, show (-1 : Int32) = Zi (-1) from rfl]
    · obtain ⟨a, i, g1, g2, g3, hB, g4⟩ := ho
      rw [g4] at d1 d2
      have d1' : vI m3 68 10 = a := d1
      have d2' : vI m3 68 11 = i := d2
      have hb2 : b.2.1 = swD d a i := by rw [g4]
      have ra := (hD.2.2.2.2.2.2 a g1).2.2.2
      have ri := (hD.2.2.2.2.2.2 i g2).2.2.2
      obtain ⟨la, li, hne, b1, b2⟩ := hB
      obtain ⟨s1, hs1⟩ : ∃ s1 : Nat, d 125 a = s1 := ⟨(d 125 a).toNat, by omega⟩
      obtain ⟨s2, hs2⟩ : ∃ s2 : Nat, d 125 i = s2 := ⟨(d 125 i).toNat, by omega⟩
      have e4 := (sw_worth hD hCl g1 g2 g3 hs1 hs2 ⟨la, li, hne, b1, b2⟩).1
      rw [hs2, Int.toNat_natCast] at b1
      rw [hs2, hs1, Int.toNat_natCast] at b2
      have q2 : ∀ c k, ¬ c = 125 → sw2 d a i c k = d c k := fun c k hc => by unfold sw2; rw [upS_ne _ _ _ hc, upS_ne _ _ _ hc]
      have hu2a : sw2 d a i 125 a = -1 := by unfold sw2; rw [upS_eq, if_neg g3, upS_eq, if_pos rfl]
      have hu2i : sw2 d a i 125 i = -1 := by unfold sw2; rw [upS_eq, if_pos rfl]
      obtain ⟨y1, m4, t1, t2, t3, t4⟩ := take_s m3 d c1 a s1 g1 hs1 (by omega)
      obtain ⟨y2, m5, u1, u2, u3, u4⟩ := take_s m4 _ t3 i s2 (by rw [upS_ne _ _ _ (by omega)]; exact g2) (by rw [upS_eq, if_neg (fun z => g3 z.symm)]; exact hs2) (by omega)
      have u3' : CAll m5 (sw2 d a i) := u3
      rw [t2] at t1
      rw [u2] at u1
      obtain ⟨y3, m6, p1, p2, p3⟩ := put_s m5 _ u3' a s2 (by rw [q2 _ _ (by omega)]; exact g1) hu2a (by omega) (NC.of_mb b1)
      obtain ⟨y4, m7, p4, p5, p6⟩ := put_s m6 _ p2 i s1 (by rw [upS_ne _ _ _ (by omega), q2 _ _ (by omega)]; exact g2) (by rw [upS_eq, if_neg (fun z => g3 z.symm)]; exact hu2i) (by omega) (NC.of_mb b2)
      rw [e4] at p5
      have sw : fX0_swap (Zi a) (Zi i) m3 = some ((), m7) := by
        rw [fX0_swap_d]
        simp (disch := omega) only [fX0_swap_0, qbI_s, qbL_s, qbV_s, qbR_s, qbR_n, qbN_s, qbN_n, qbIX_s, qbIX_n, qbVX_s, qbVX_n, cond_true, cond_false, cond_dec, jadd, jsub, jmul, jneg, li_0, li_1, li_2, li_3, li_4, li_5, li_6, li_7, li_8, li_9, li_10, li_14, li_15, li_16, li_19, li_20, li_24, li_30, li_31, li_32, li_39, li_40, li_48, li_57, li_59, li_60, li_63, li_65, li_80, li_81, li_90, li_97, li_99, li_100, li_122, li_126, li_127, li_150, li_160, li_200, li_225, li_255, li_400, li_799, li_800, li_999, li_2400, li_3239, li_3240, li_1048575, li_1431655765, li_858993459, li_252645135, eqb_j, ltb_j, leb_j, inb_j, ix_j, ix_n, nz_b, nz_0, nz_1, eqb_b, bnot, vI_ne, vI_eq, gIL, gLI, gIR, gRI, gLR, gRL, Int.reduceLT, Int.reduceLE, Int.reduceEq, Int.reduceAdd, Int.reduceSub, Int.reduceMul, Int.reduceNeg, Int.reduceToNat, Nat.reduceEqDiff, reduceIte, if_neg, if_pos, gI_ne, t1, u1, p1, p4]
      rw [hb2]
      refine wp_e (x := Zi 1) (m := m7) ?_ ⟨hres, p5, (((SA.tr (SF.of t4)).tr (SF.of u4)).tr (SF.of p3)).tr (SF.of p6)⟩
      simp (disch := omega) only [fX0_changeOnce_0, fX0_changeOnce_42, qbI_s, qbL_s, qbV_s, qbR_s, qbR_n, qbN_s, qbN_n, qbIX_s, qbIX_n, qbVX_s, qbVX_n, cond_true, cond_false, cond_dec, jadd, jsub, jmul, jneg, li_0, li_1, li_2, li_3, li_4, li_5, li_6, li_7, li_8, li_9, li_10, li_14, li_15, li_16, li_19, li_20, li_24, li_30, li_31, li_32, li_39, li_40, li_48, li_57, li_59, li_60, li_63, li_65, li_80, li_81, li_90, li_97, li_99, li_100, li_122, li_126, li_127, li_150, li_160, li_200, li_225, li_255, li_400, li_799, li_800, li_999, li_2400, li_3239, li_3240, li_1048575, li_1431655765, li_858993459, li_252645135, eqb_j, ltb_j, leb_j, inb_j, ix_j, ix_n, nz_b, nz_0, nz_1, eqb_b, bnot, vI_ne, vI_eq, gIL, gLI, gIR, gRI, gLR, gRL, Int.reduceLT, Int.reduceLE, Int.reduceEq, Int.reduceAdd, Int.reduceSub, Int.reduceMul, Int.reduceNeg, Int.reduceToNat, Nat.reduceEqDiff, reduceIte, if_neg, if_pos, gI_ne, ll_0, ll_1, ll_3, ll_5, ll_9, ll_10, ll_13, ll_14, ll_19, ll_20, ll_32, ll_60, ll_126, ll_799, ll_1024, ll_1048576, ll_67108864, Zladd, Zlsub, Zlmul, Zlneg, toL, lg_lt, lg_gt, lg_le, e1', e2', e3, c2, lq, gIv 68, d1', d2', sw, show (-1 : Int32) = Zi (-1) from rfl]
