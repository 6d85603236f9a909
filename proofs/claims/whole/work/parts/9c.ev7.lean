/-! the evening: a teacher looks, both machines -/
theorem OutC.from {m0 w w1 : qM} {s : Nat → Nat → Int} {K t u : Nat} {s' : Nat → Nat → Int} {w' : qM} (h : OutC m0 s K w1 t u s' w') (e : ∀ t', vI w1 86 t' = vI w 86 t') : OutC m0 s K w t u s' w' := by
  obtain ⟨h1, h2, h3, h4⟩ := h
  exact ⟨h1, h2, fun t' ht' => by rw [← e t']; exact h3 t' ht', h4⟩
theorem mulS {d : Nat → Nat → Int} (hD : DOk d) {x y : Int} (h : x ≤ y) : d 99 0 * x ≤ d 99 0 * y := Int.mul_le_mul_of_nonneg_left h (by have := hD.1.1; omega)
theorem lookB {m0 w : qM} (hR : R0 m0) {s : Nat → Nat → Int} {K t u : Nat} (hK : K ≤ 80) (hKn : (K : Int) ≤ vI m0 98 52) (ht : t < 10) (hS : SI (vI m0) s) (h : CS m0 s K w) (hu : u < 800) (hl : LkC s w t u) : ∃ s' w', fX1_look (Zi t) (Zi u) w = some ((), w') ∧ OutC m0 s K w t u s' w' ∧ ∀ v, MS (vI m0) s K v → ∃ v', MS (vI m0) s' K v' ∧ Fr DynF v v' ∧ (awy (vI m0) K t u → v' = v) ∧ (¬ awy (vI m0) K t u → fX13_look (Zi t) (Zi u) v = some ((), v')) := by
  have hA := CS.all hR h.1
  have hD := DOk.of hA
  have hCl := hA.2.2.2.2.2.2.2.1
  have n2 := hD.2.2.2.2.2.1
  have r0 := hD.1.1
  have h85 := h.2.2.1
  have h809 := h.2.1.1
  by_cases g0 : ∃ b, b < 32 ∧ pd (opS (vI m0) s t b) = true
  · obtain ⟨b, b32, b1, b2⟩ := fb_first g0
    rw [pd_iff] at b1
    obtain ⟨a, a1, a2, a3⟩ := b1
    have a20 := (hD.2.2.2.2.2.2 a a1.1).2.2.2
    have b20 : b < 20 := by omega
    have bmin : ∀ o, opn (vI m0) s o → vI m0 124 o = t → (b : Int) ≤ vI m0 125 o := fun o o1 o2 => by
      refine Int.not_lt.mp fun z => ?_
      have := (hD.2.2.2.2.2.2 o o1.1).2.2.2
      have := o1.2.1
      exact b2 (vI m0 125 o).toNat (by omega) (pd_t ⟨o, o1, o2, by omega⟩)
    have x0 : eqb (gI w 85 t) (Zi 0) = false := by
      rw [show Zi 0 = (0 : Int32) from rfl, eqb_d]
      refine decide_eq_false fun z => ?_
      have h9 := h85 t b ht b32
      rw [z, b_0, pd_t ⟨a, a1, a2, a3⟩] at h9
      cases h9
    have ls : ∀ y : qM, fX11_leastOf (gI w 85 t) y = some (Zi (b : Int), y) := fun y => least_s (gI w 85 t) b b32 (by rw [h85 t b ht b32]; exact pd_t ⟨a, a1, a2, a3⟩) (fun j hj => by
      rw [h85 t j ht (by omega)]
      have := b2 j hj
      cases q : pd (opS (vI m0) s t j)
      · rfl
      · exact absurd q this) y
    have mA := evMin hA
    obtain ⟨due, hdue⟩ : ∃ due : Int, due = (b : Int) * vI m0 99 0 := ⟨_, rfl⟩
    have hdue2 : due = vI m0 99 0 * vI m0 125 a := by rw [hdue, a3, Int.mul_comm]
    have mr := min_r hD a a1.1 a1.2.1
    have fru : ∀ v, MS (vI m0) s K v → fX13_frontOf (Zi t) (Zi (-1)) v = some (Zi a, v) := fun v hv => by
      obtain ⟨z, f1, f2⟩ := frontM hD hS hv t ht (-1) (by omega)
      rw [f1]
      rcases f2 with ⟨z1, z2⟩ | ⟨c, z1, z2, z3, z4, z5, z6⟩
      · have := z2 a (by have := a1.1; omega) a1 a2
        omega
      · have q1 := z6 a (by have := a1.1; omega) a1 a2 (by omega)
        have q2 := bmin c z3 z4
        have : c = a := Classical.byContradiction fun e => (hCl c a z3.1 a1.1 e z3.2.1 (by omega)).2.1 (by rw [z4, a2])
        rw [z1, this]
    by_cases g1 : due ≤ u
    · obtain ⟨z, az, aq⟩ := awayC hR h.1 K hKn t ht u (by omega)
      have az' : fX9_awayUpTo (Zi t) (Zi u) (gI w 80 9) w = some (Zi z, w) := by rw [gIv 80, h809]; exact az
      rcases aq with ⟨z1, naw⟩ | ⟨k, k1, k2, k3, k4, k5, k6, k7⟩
      · -- looks
        have iA := evAt hR h.1 s a t b a1 a2 a3 ht b20
        have fol := hR.1.2.2.2.1 t ht
        have w16 : vI w 16 t = vI m0 108 t := by rw [h.1.v 16 t (by unfold evF; omega), fol.1]
        -- the reference up to its policy's lines
        have ref : ∀ v, MS (vI m0) s K v → fX13_look (Zi t) (Zi u) v = fX13_look_16 fX13_look_55 FU (Zi t) (Zi u) (Zi a) (Zi 0) v := fun v hv => by
          have mM := minM hD hv a a1.1 a1.2.1
          have a40 := a1.1
          rw [← hdue2] at mM
          rw [fX13_look_d]
          simp (disch := omega) only [fX13_look_0, qbI_s, qbL_s, qbV_s, qbR_s, qbR_n, qbN_s, qbN_n, qbIX_s, qbIX_n, qbVX_s, qbVX_n, cond_true, cond_false, cond_dec, jadd, jsub, jmul, jneg, li_0, li_1, li_2, li_3, li_4, li_5, li_6, li_7, li_8, li_9, li_10, li_14, li_15, li_16, li_19, li_20, li_24, li_30, li_31, li_32, li_39, li_40, li_48, li_57, li_59, li_60, li_63, li_65, li_80, li_81, li_90, li_97, li_99, li_100, li_122, li_126, li_127, li_150, li_160, li_200, li_225, li_255, li_400, li_799, li_800, li_999, li_2400, li_3239, li_3240, li_1048575, li_1431655765, li_858993459, li_252645135, eqb_j, ltb_j, leb_j, inb_j, ix_j, ix_n, nz_b, nz_0, nz_1, eqb_b, bnot, vI_ne, vI_eq, gIL, gLI, gIR, gRI, gLR, gRL, Int.reduceLT, Int.reduceLE, Int.reduceEq, Int.reduceAdd, Int.reduceSub, Int.reduceMul, Int.reduceNeg, Int.reduceToNat, Nat.reduceEqDiff, reduceIte, if_neg, if_pos, gI_ne, fru v hv, mM, show (-1 : Int32) = Zi (-1) from rfl]
        by_cases gp : vI m0 108 t = -1
        · obtain ⟨s', w', e, hO, hv⟩ := plainB hR hK ht hS h hu hl a a1 a2 ((u : Int) - due) (by rw [hdue2])
          refine ⟨s', w', ?_, hO, fun v hvv => ?_⟩
          · have pR9 : fX11_isPolicy (Zi (-1)) w = some (Zi 0, w) := by
              rw [pR_s _ (by omega), decide_eq_false (by omega)]
              rfl
            have po : fX10_policyOf (Zi t) w = some (none, w) := by
              rw [fX10_policyOf_d]
              simp (disch := omega) only [fX10_policyOf_0, fX10_policyOf_14, qbI_s, qbL_s, qbV_s, qbR_s, qbR_n, qbN_s, qbN_n, qbIX_s, qbIX_n, qbVX_s, qbVX_n, cond_true, cond_false, cond_dec, jadd, jsub, jmul, jneg, li_0, li_1, li_2, li_3, li_4, li_5, li_6, li_7, li_8, li_9, li_10, li_14, li_15, li_16, li_19, li_20, li_24, li_30, li_31, li_32, li_39, li_40, li_48, li_57, li_59, li_60, li_63, li_65, li_80, li_81, li_90, li_97, li_99, li_100, li_122, li_126, li_127, li_150, li_160, li_200, li_225, li_255, li_400, li_799, li_800, li_999, li_2400, li_3239, li_3240, li_1048575, li_1431655765, li_858993459, li_252645135, eqb_j, ltb_j, leb_j, inb_j, ix_j, ix_n, nz_b, nz_0, nz_1, eqb_b, bnot, vI_ne, vI_eq, gIL, gLI, gIR, gRI, gLR, gRL, Int.reduceLT, Int.reduceLE, Int.reduceEq, Int.reduceAdd, Int.reduceSub, Int.reduceMul, Int.reduceNeg, Int.reduceToNat, Nat.reduceEqDiff, reduceIte, if_neg, if_pos, gI_ne, gIv 16, w16, gp, pR9]
            rw [fX1_look_d]
            simp (disch := omega) only [fX1_look_0, fX1_look_75a, fX1_look_80, fX1_look_98, qbI_s, qbL_s, qbV_s, qbR_s, qbR_n, qbN_s, qbN_n, qbIX_s, qbIX_n, qbVX_s, qbVX_n, cond_true, cond_false, cond_dec, jadd, jsub, jmul, jneg, li_0, li_1, li_2, li_3, li_4, li_5, li_6, li_7, li_8, li_9, li_10, li_14, li_15, li_16, li_19, li_20, li_24, li_30, li_31, li_32, li_39, li_40, li_48, li_57, li_59, li_60, li_63, li_65, li_80, li_81, li_90, li_97, li_99, li_100, li_122, li_126, li_127, li_150, li_160, li_200, li_225, li_255, li_400, li_799, li_800, li_999, li_2400, li_3239, li_3240, li_1048575, li_1431655765, li_858993459, li_252645135, eqb_j, ltb_j, leb_j, inb_j, ix_j, ix_n, nz_b, nz_0, nz_1, eqb_b, bnot, vI_ne, vI_eq, gIL, gLI, gIR, gRI, gLR, gRL, Int.reduceLT, Int.reduceLE, Int.reduceEq, Int.reduceAdd, Int.reduceSub, Int.reduceMul, Int.reduceNeg, Int.reduceToNat, Nat.reduceEqDiff, reduceIte, if_neg, if_pos, gI_ne, x0, ls, mA, ← hdue, az', z1, iA, po, e, show (-1 : Int32) = Zi (-1) from rfl]
          · obtain ⟨v', k1, k2, k3⟩ := hv v hvv
            refine ⟨v', k2, k3, fun z => absurd z naw, fun _ => ?_⟩
            have e108 := hvv.1 108 t (by unfold dE; omega)
            obtain ⟨g, hg⟩ := FU_s 0 (by decide)
            rw [ref v hvv, hg]
            simp (disch := omega) only [fX13_look_16, qbI_s, qbL_s, qbV_s, qbR_s, qbR_n, qbN_s, qbN_n, qbIX_s, qbIX_n, qbVX_s, qbVX_n, cond_true, cond_false, cond_dec, jadd, jsub, jmul, jneg, li_0, li_1, li_2, li_3, li_4, li_5, li_6, li_7, li_8, li_9, li_10, li_14, li_15, li_16, li_19, li_20, li_24, li_30, li_31, li_32, li_39, li_40, li_48, li_57, li_59, li_60, li_63, li_65, li_80, li_81, li_90, li_97, li_99, li_100, li_122, li_126, li_127, li_150, li_160, li_200, li_225, li_255, li_400, li_799, li_800, li_999, li_2400, li_3239, li_3240, li_1048575, li_1431655765, li_858993459, li_252645135, eqb_j, ltb_j, leb_j, inb_j, ix_j, ix_n, nz_b, nz_0, nz_1, eqb_b, bnot, vI_ne, vI_eq, gIL, gLI, gIR, gRI, gLR, gRL, Int.reduceLT, Int.reduceLE, Int.reduceEq, Int.reduceAdd, Int.reduceSub, Int.reduceMul, Int.reduceNeg, Int.reduceToNat, Nat.reduceEqDiff, reduceIte, if_neg, if_pos, gI_ne, gIv 108, e108, gp, show (-1 : Int32) = Zi (-1) from rfl]
            exact k1
        · obtain ⟨p, hp⟩ : ∃ p : Nat, vI m0 108 t = p := ⟨(vI m0 108 t).toNat, by omega⟩
          have hPo := hR.2.2.2.2.2.2
          obtain ⟨r, r1, r2, r3, r4, r5⟩ := hPo
          have hq := r1 p (by omega)
          obtain ⟨qp, q9, q40⟩ := pol_q hq
          have hPL := r5 p (by omega)
          have hPD := PolD.of hPL
          have gR8 : gR w 8 p = some (r p) := by rw [h.1.2.2]; exact r3 p (by omega)
          have q1000 : Nat.blt (r p) 1000 = true := by
            rw [Nat.blt_eq]
            omega
          have po : fX10_policyOf (Zi t) w = some (some (r p), w) := by
            rw [fX10_policyOf_d]
            simp (disch := omega) only [fX10_policyOf_0, fX10_policyOf_14a, qbI_s, qbL_s, qbV_s, qbR_s, qbR_n, qbN_s, qbN_n, qbIX_s, qbIX_n, qbVX_s, qbVX_n, cond_true, cond_false, cond_dec, jadd, jsub, jmul, jneg, li_0, li_1, li_2, li_3, li_4, li_5, li_6, li_7, li_8, li_9, li_10, li_14, li_15, li_16, li_19, li_20, li_24, li_30, li_31, li_32, li_39, li_40, li_48, li_57, li_59, li_60, li_63, li_65, li_80, li_81, li_90, li_97, li_99, li_100, li_122, li_126, li_127, li_150, li_160, li_200, li_225, li_255, li_400, li_799, li_800, li_999, li_2400, li_3239, li_3240, li_1048575, li_1431655765, li_858993459, li_252645135, eqb_j, ltb_j, leb_j, inb_j, ix_j, ix_n, nz_b, nz_0, nz_1, eqb_b, bnot, vI_ne, vI_eq, gIL, gLI, gIR, gRI, gLR, gRL, Int.reduceLT, Int.reduceLE, Int.reduceEq, Int.reduceAdd, Int.reduceSub, Int.reduceMul, Int.reduceNeg, Int.reduceToNat, Nat.reduceEqDiff, reduceIte, if_neg, if_pos, gI_ne, gIv 16, w16, hp, pR_s, bI_dec, gR8, qp]
          obtain ⟨x1, w1, eg, Fg, hg84⟩ := gatherC hR hS h a a1 u (by omega)
          have h1 : CS m0 s K w1 := h.keep (Fg.wide fun c k hc => Or.inl hc)
          have e86 : ∀ t', vI w1 86 t' = vI w 86 t' := fun t' => Fg.v 86 t' (by omega)
          have hl1 : LkC s w1 t u := by
            obtain ⟨l1, l2, l3⟩ := hl
            exact ⟨by rw [e86]; exact l1, by rw [e86]; exact l2, by rw [e86]; exact l3⟩
          have li := lineC hD h1 a a1 u (by omega) hg84 (r p) p hq (by omega) hPL
          have fr := fhV_r (fun l => hoB (vI m0) s a u (8 * p + l)) (vI m0 101 p).toNat 0
          have r16 := fun v (hvv : MS (vI m0) s K v) => look16 hD hS hvv a a1 u (by omega) t ht p (by omega) hPD hp fX13_look_55 (vI m0 101 p).toNat 0 FU (by omega) (by rw [FU_d]; have := hPD.1; omega)
          generalize fhV (fun l => hoB (vI m0) s a u (8 * p + l)) 0 (vI m0 101 p).toNat = z9 at *
          have up : ∀ w', fX1_look_75 (Zi u) (Zi due) (Zi a) (r p) (Zi z9) w1 = some ((), w') → fX1_look (Zi t) (Zi u) w = some ((), w') := fun w' e => by
            rw [fX1_look_d]
            simp (disch := omega) only [fX1_look_0, qbI_s, qbL_s, qbV_s, qbR_s, qbR_n, qbN_s, qbN_n, qbIX_s, qbIX_n, qbVX_s, qbVX_n, cond_true, cond_false, cond_dec, jadd, jsub, jmul, jneg, li_0, li_1, li_2, li_3, li_4, li_5, li_6, li_7, li_8, li_9, li_10, li_14, li_15, li_16, li_19, li_20, li_24, li_30, li_31, li_32, li_39, li_40, li_48, li_57, li_59, li_60, li_63, li_65, li_80, li_81, li_90, li_97, li_99, li_100, li_122, li_126, li_127, li_150, li_160, li_200, li_225, li_255, li_400, li_799, li_800, li_999, li_2400, li_3239, li_3240, li_1048575, li_1431655765, li_858993459, li_252645135, eqb_j, ltb_j, leb_j, inb_j, ix_j, ix_n, nz_b, nz_0, nz_1, eqb_b, bnot, vI_ne, vI_eq, gIL, gLI, gIR, gRI, gLR, gRL, Int.reduceLT, Int.reduceLE, Int.reduceEq, Int.reduceAdd, Int.reduceSub, Int.reduceMul, Int.reduceNeg, Int.reduceToNat, Nat.reduceEqDiff, reduceIte, if_neg, if_pos, gI_ne, x0, ls, mA, ← hdue, az', z1, iA, po, q1000, eg, qp, li, show (-1 : Int32) = Zi (-1) from rfl]
            exact e
          rcases fr with fr | ⟨l, f1, f2, f3⟩
          · obtain ⟨s', w', e, hO, hv⟩ := plainB hR hK ht hS h1 hu hl1 a a1 a2 ((u : Int) - due) (by rw [hdue2])
            refine ⟨s', w', up w' ?_, hO.from e86, fun v hvv => ?_⟩
            · simp (disch := omega) only [fX1_look_75, fX1_look_80, fX1_look_98, qbI_s, qbL_s, qbV_s, qbR_s, qbR_n, qbN_s, qbN_n, qbIX_s, qbIX_n, qbVX_s, qbVX_n, cond_true, cond_false, cond_dec, jadd, jsub, jmul, jneg, li_0, li_1, li_2, li_3, li_4, li_5, li_6, li_7, li_8, li_9, li_10, li_14, li_15, li_16, li_19, li_20, li_24, li_30, li_31, li_32, li_39, li_40, li_48, li_57, li_59, li_60, li_63, li_65, li_80, li_81, li_90, li_97, li_99, li_100, li_122, li_126, li_127, li_150, li_160, li_200, li_225, li_255, li_400, li_799, li_800, li_999, li_2400, li_3239, li_3240, li_1048575, li_1431655765, li_858993459, li_252645135, eqb_j, ltb_j, leb_j, inb_j, ix_j, ix_n, nz_b, nz_0, nz_1, eqb_b, bnot, vI_ne, vI_eq, gIL, gLI, gIR, gRI, gLR, gRL, Int.reduceLT, Int.reduceLE, Int.reduceEq, Int.reduceAdd, Int.reduceSub, Int.reduceMul, Int.reduceNeg, Int.reduceToNat, Nat.reduceEqDiff, reduceIte, if_neg, if_pos, gI_ne, q1000, fr, e, show (-1 : Int32) = Zi (-1) from rfl]
            · obtain ⟨v', k1, k2, k3⟩ := hv v hvv
              refine ⟨v', k2, k3, fun z => absurd z naw, fun _ => ?_⟩
              have := r16 v hvv
              rw [if_pos fr] at this
              rw [ref v hvv]
              exact this.trans k1
          · have hlp : (l : Int) < vI m0 101 p := by omega
            have l8 := hPD.1
            obtain ⟨s', w', e, hO, hv⟩ := actB hR hK ht hS h1 hu hl1 a a1 a2 p l (by omega) hPD hlp
            have st : ∀ c k, c ≤ 46 → vI w1 c k = vI m0 c k := fun c k hc => h1.1.v c k (by unfold evF; omega)
            obtain ⟨-, -, -, pl⟩ := hPL
            obtain ⟨-, c2, c3, -⟩ := pl l hlp
            have ao : fX5_actOf (r p) (Zi l) w1 = some (Zi (vI m0 102 (8 * p + l)), w1) := by
              rw [fX5_actOf_d]
              have := st (r p + 5) l (by omega)
              rw [c2.1] at this
              simp (disch := omega) only [fX5_actOf_0, fX5_actOf_11, qbI_s, qbL_s, qbV_s, qbR_s, qbR_n, qbN_s, qbN_n, qbIX_s, qbIX_n, qbVX_s, qbVX_n, cond_true, cond_false, cond_dec, jadd, jsub, jmul, jneg, li_0, li_1, li_2, li_3, li_4, li_5, li_6, li_7, li_8, li_9, li_10, li_14, li_15, li_16, li_19, li_20, li_24, li_30, li_31, li_32, li_39, li_40, li_48, li_57, li_59, li_60, li_63, li_65, li_80, li_81, li_90, li_97, li_99, li_100, li_122, li_126, li_127, li_150, li_160, li_200, li_225, li_255, li_400, li_799, li_800, li_999, li_2400, li_3239, li_3240, li_1048575, li_1431655765, li_858993459, li_252645135, eqb_j, ltb_j, leb_j, inb_j, ix_j, ix_n, nz_b, nz_0, nz_1, eqb_b, bnot, vI_ne, vI_eq, gIL, gLI, gIR, gRI, gLR, gRL, Int.reduceLT, Int.reduceLE, Int.reduceEq, Int.reduceAdd, Int.reduceSub, Int.reduceMul, Int.reduceNeg, Int.reduceToNat, Nat.reduceEqDiff, reduceIte, if_neg, if_pos, gI_ne, within_s, bI_dec, gIv (r p + 5), this]
            have an : fX5_actNumberOf (r p) (Zi l) w1 = some (Zi (vI m0 103 (8 * p + l)), w1) := by
              rw [fX5_actNumberOf_d]
              have := st (r p + 6) l (by omega)
              rw [c3.1] at this
              simp (disch := omega) only [fX5_actNumberOf_0, fX5_actNumberOf_11, qbI_s, qbL_s, qbV_s, qbR_s, qbR_n, qbN_s, qbN_n, qbIX_s, qbIX_n, qbVX_s, qbVX_n, cond_true, cond_false, cond_dec, jadd, jsub, jmul, jneg, li_0, li_1, li_2, li_3, li_4, li_5, li_6, li_7, li_8, li_9, li_10, li_14, li_15, li_16, li_19, li_20, li_24, li_30, li_31, li_32, li_39, li_40, li_48, li_57, li_59, li_60, li_63, li_65, li_80, li_81, li_90, li_97, li_99, li_100, li_122, li_126, li_127, li_150, li_160, li_200, li_225, li_255, li_400, li_799, li_800, li_999, li_2400, li_3239, li_3240, li_1048575, li_1431655765, li_858993459, li_252645135, eqb_j, ltb_j, leb_j, inb_j, ix_j, ix_n, nz_b, nz_0, nz_1, eqb_b, bnot, vI_ne, vI_eq, gIL, gLI, gIR, gRI, gLR, gRL, Int.reduceLT, Int.reduceLE, Int.reduceEq, Int.reduceAdd, Int.reduceSub, Int.reduceMul, Int.reduceNeg, Int.reduceToNat, Nat.reduceEqDiff, reduceIte, if_neg, if_pos, gI_ne, within_s, bI_dec, gIv (r p + 6), this]
            refine ⟨s', w', up w' ?_, hO.from e86, fun v hvv => ?_⟩
            · simp (disch := omega) only [fX1_look_75, fX1_look_98, qbI_s, qbL_s, qbV_s, qbR_s, qbR_n, qbN_s, qbN_n, qbIX_s, qbIX_n, qbVX_s, qbVX_n, cond_true, cond_false, cond_dec, jadd, jsub, jmul, jneg, li_0, li_1, li_2, li_3, li_4, li_5, li_6, li_7, li_8, li_9, li_10, li_14, li_15, li_16, li_19, li_20, li_24, li_30, li_31, li_32, li_39, li_40, li_48, li_57, li_59, li_60, li_63, li_65, li_80, li_81, li_90, li_97, li_99, li_100, li_122, li_126, li_127, li_150, li_160, li_200, li_225, li_255, li_400, li_799, li_800, li_999, li_2400, li_3239, li_3240, li_1048575, li_1431655765, li_858993459, li_252645135, eqb_j, ltb_j, leb_j, inb_j, ix_j, ix_n, nz_b, nz_0, nz_1, eqb_b, bnot, vI_ne, vI_eq, gIL, gLI, gIR, gRI, gLR, gRL, Int.reduceLT, Int.reduceLE, Int.reduceEq, Int.reduceAdd, Int.reduceSub, Int.reduceMul, Int.reduceNeg, Int.reduceToNat, Nat.reduceEqDiff, reduceIte, if_neg, if_pos, gI_ne, q1000, f1, qp, ao, an, e, show (-1 : Int32) = Zi (-1) from rfl]
            · obtain ⟨v', k1, k2, k3⟩ := hv v hvv
              refine ⟨v', k2, k3, fun z => absurd z naw, fun _ => ?_⟩
              have := r16 v hvv
              rw [if_neg (by omega), f1, k1, qbV_s] at this
              rw [ref v hvv]
              exact this
      · -- away
        have aw : awy (vI m0) K t u := ⟨k, k1, k3, k4, k5, k6⟩
        refine ⟨s, sI w 86 t (Zi (z + 1)), ?_, OutC.note ht hS h hu hl (z + 1) (by omega) (fun u' h1 h2 => Or.inr (Or.inr (Or.inl ⟨k, k1, k3, k4, by omega, by omega⟩))), fun v hv => ⟨v, hv, Fr.rf v, fun _ => rfl, fun z => absurd aw z⟩⟩
        rw [fX1_look_d]
        simp (disch := omega) only [fX1_look_0, qbI_s, qbL_s, qbV_s, qbR_s, qbR_n, qbN_s, qbN_n, qbIX_s, qbIX_n, qbVX_s, qbVX_n, cond_true, cond_false, cond_dec, jadd, jsub, jmul, jneg, li_0, li_1, li_2, li_3, li_4, li_5, li_6, li_7, li_8, li_9, li_10, li_14, li_15, li_16, li_19, li_20, li_24, li_30, li_31, li_32, li_39, li_40, li_48, li_57, li_59, li_60, li_63, li_65, li_80, li_81, li_90, li_97, li_99, li_100, li_122, li_126, li_127, li_150, li_160, li_200, li_225, li_255, li_400, li_799, li_800, li_999, li_2400, li_3239, li_3240, li_1048575, li_1431655765, li_858993459, li_252645135, eqb_j, ltb_j, leb_j, inb_j, ix_j, ix_n, nz_b, nz_0, nz_1, eqb_b, bnot, vI_ne, vI_eq, gIL, gLI, gIR, gRI, gLR, gRL, Int.reduceLT, Int.reduceLE, Int.reduceEq, Int.reduceAdd, Int.reduceSub, Int.reduceMul, Int.reduceNeg, Int.reduceToNat, Nat.reduceEqDiff, reduceIte, if_neg, if_pos, gI_ne, x0, ls, mA, ← hdue, az', show (-1 : Int32) = Zi (-1) from rfl]
    · -- not yet
      refine ⟨s, sI w 86 t (Zi due), ?_, OutC.note ht hS h hu hl due (by omega) (fun u' h1 h2 => Or.inr (Or.inr (Or.inr fun o o1 o2 => ?_))), fun v hv => ⟨v, hv, Fr.rf v, fun _ => rfl, fun naw => ?_⟩⟩
      · rw [fX1_look_d]
        simp (disch := omega) only [fX1_look_0, qbI_s, qbL_s, qbV_s, qbR_s, qbR_n, qbN_s, qbN_n, qbIX_s, qbIX_n, qbVX_s, qbVX_n, cond_true, cond_false, cond_dec, jadd, jsub, jmul, jneg, li_0, li_1, li_2, li_3, li_4, li_5, li_6, li_7, li_8, li_9, li_10, li_14, li_15, li_16, li_19, li_20, li_24, li_30, li_31, li_32, li_39, li_40, li_48, li_57, li_59, li_60, li_63, li_65, li_80, li_81, li_90, li_97, li_99, li_100, li_122, li_126, li_127, li_150, li_160, li_200, li_225, li_255, li_400, li_799, li_800, li_999, li_2400, li_3239, li_3240, li_1048575, li_1431655765, li_858993459, li_252645135, eqb_j, ltb_j, leb_j, inb_j, ix_j, ix_n, nz_b, nz_0, nz_1, eqb_b, bnot, vI_ne, vI_eq, gIL, gLI, gIR, gRI, gLR, gRL, Int.reduceLT, Int.reduceLE, Int.reduceEq, Int.reduceAdd, Int.reduceSub, Int.reduceMul, Int.reduceNeg, Int.reduceToNat, Nat.reduceEqDiff, reduceIte, if_neg, if_pos, gI_ne, x0, ls, mA, ← hdue]
      · have := mulS hD (show vI m0 125 a ≤ vI m0 125 o by rw [a3]; exact bmin o o1 o2)
        omega
      · have mM := minM hD hv a a1.1 a1.2.1
        have a40 := a1.1
        rw [← hdue2] at mM
        rw [fX13_look_d]
        simp (disch := omega) only [fX13_look_0, fX13_look_13, qbI_s, qbL_s, qbV_s, qbR_s, qbR_n, qbN_s, qbN_n, qbIX_s, qbIX_n, qbVX_s, qbVX_n, cond_true, cond_false, cond_dec, jadd, jsub, jmul, jneg, li_0, li_1, li_2, li_3, li_4, li_5, li_6, li_7, li_8, li_9, li_10, li_14, li_15, li_16, li_19, li_20, li_24, li_30, li_31, li_32, li_39, li_40, li_48, li_57, li_59, li_60, li_63, li_65, li_80, li_81, li_90, li_97, li_99, li_100, li_122, li_126, li_127, li_150, li_160, li_200, li_225, li_255, li_400, li_799, li_800, li_999, li_2400, li_3239, li_3240, li_1048575, li_1431655765, li_858993459, li_252645135, eqb_j, ltb_j, leb_j, inb_j, ix_j, ix_n, nz_b, nz_0, nz_1, eqb_b, bnot, vI_ne, vI_eq, gIL, gLI, gIR, gRI, gLR, gRL, Int.reduceLT, Int.reduceLE, Int.reduceEq, Int.reduceAdd, Int.reduceSub, Int.reduceMul, Int.reduceNeg, Int.reduceToNat, Nat.reduceEqDiff, reduceIte, if_neg, if_pos, gI_ne, fru v hv, mM, show (-1 : Int32) = Zi (-1) from rfl]
  · -- nobody is left
    have none : ∀ b, b < 32 → ¬ opS (vI m0) s t b := fun b hb z => g0 ⟨b, hb, pd_t z⟩
    have no : ∀ o, opn (vI m0) s o → vI m0 124 o = t → False := fun o o1 o2 => by
      have := (hD.2.2.2.2.2.2 o o1.1).2.2.2
      have := o1.2.1
      exact none (vI m0 125 o).toNat (by omega) ⟨o, o1, o2, by omega⟩
    have x0 : gI w 85 t = 0 := b_ext fun i hi => by rw [h85 t i ht hi, b_0]; exact pd_f (none i hi)
    have x1 : eqb (gI w 85 t) (Zi 0) = true := by rw [x0, eqb_d]; rfl
    refine ⟨s, sI w 86 t (Zi 800), ?_, OutC.note ht hS h hu hl 800 (by omega) (fun u' h1 h2 => Or.inr (Or.inr (Or.inr fun o o1 o2 => (no o o1 o2).elim))), fun v hv => ⟨v, hv, Fr.rf v, fun _ => rfl, fun naw => ?_⟩⟩
    · rw [fX1_look_d]
      simp (disch := omega) only [fX1_look_0, qbI_s, qbL_s, qbV_s, qbR_s, qbR_n, qbN_s, qbN_n, qbIX_s, qbIX_n, qbVX_s, qbVX_n, cond_true, cond_false, cond_dec, jadd, jsub, jmul, jneg, li_0, li_1, li_2, li_3, li_4, li_5, li_6, li_7, li_8, li_9, li_10, li_14, li_15, li_16, li_19, li_20, li_24, li_30, li_31, li_32, li_39, li_40, li_48, li_57, li_59, li_60, li_63, li_65, li_80, li_81, li_90, li_97, li_99, li_100, li_122, li_126, li_127, li_150, li_160, li_200, li_225, li_255, li_400, li_799, li_800, li_999, li_2400, li_3239, li_3240, li_1048575, li_1431655765, li_858993459, li_252645135, eqb_j, ltb_j, leb_j, inb_j, ix_j, ix_n, nz_b, nz_0, nz_1, eqb_b, bnot, vI_ne, vI_eq, gIL, gLI, gIR, gRI, gLR, gRL, Int.reduceLT, Int.reduceLE, Int.reduceEq, Int.reduceAdd, Int.reduceSub, Int.reduceMul, Int.reduceNeg, Int.reduceToNat, Nat.reduceEqDiff, reduceIte, if_neg, if_pos, gI_ne, x1]
    · obtain ⟨z, f1, f2⟩ := frontM hD hS hv t ht (-1) (by omega)
      rcases f2 with ⟨z1, z2⟩ | ⟨c, z1, z2, z3, z4, z5, z6⟩
      · rw [z1] at f1
        rw [fX13_look_d]
        simp (disch := omega) only [fX13_look_0, fX13_look_13, qbI_s, qbL_s, qbV_s, qbR_s, qbR_n, qbN_s, qbN_n, qbIX_s, qbIX_n, qbVX_s, qbVX_n, cond_true, cond_false, cond_dec, jadd, jsub, jmul, jneg, li_0, li_1, li_2, li_3, li_4, li_5, li_6, li_7, li_8, li_9, li_10, li_14, li_15, li_16, li_19, li_20, li_24, li_30, li_31, li_32, li_39, li_40, li_48, li_57, li_59, li_60, li_63, li_65, li_80, li_81, li_90, li_97, li_99, li_100, li_122, li_126, li_127, li_150, li_160, li_200, li_225, li_255, li_400, li_799, li_800, li_999, li_2400, li_3239, li_3240, li_1048575, li_1431655765, li_858993459, li_252645135, eqb_j, ltb_j, leb_j, inb_j, ix_j, ix_n, nz_b, nz_0, nz_1, eqb_b, bnot, vI_ne, vI_eq, gIL, gLI, gIR, gRI, gLR, gRL, Int.reduceLT, Int.reduceLE, Int.reduceEq, Int.reduceAdd, Int.reduceSub, Int.reduceMul, Int.reduceNeg, Int.reduceToNat, Nat.reduceEqDiff, reduceIte, if_neg, if_pos, gI_ne, f1, show (-1 : Int32) = Zi (-1) from rfl]
      · exact (no c z3 z4).elim
