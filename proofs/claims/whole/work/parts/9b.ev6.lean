/-! the evening: an act, both machines -/
/-- the first one behind a slot that is here -/
def swQ (d s : Nat → Nat → Int) (t : Nat) (b : Int) (u : Int) (z : Int) : Prop := (z = -1 ∧ ∀ o, opn d s o → d 124 o = t → b < d 125 o → hrB d s o u = false) ∨ ∃ a : Nat, z = a ∧ opn d s a ∧ d 124 a = t ∧ b < d 125 a ∧ hrB d s a u = true ∧ ∀ o, opn d s o → d 124 o = t → b < d 125 o → d 125 o < d 125 a → hrB d s o u = false
theorem swQ_one {m0 : qM} (hR : R0 m0) {s : Nat → Nat → Int} {t : Nat} {b u z z' : Int} (h : swQ (vI m0) s t b u z) (h' : swQ (vI m0) s t b u z') : z = z' := by
  have hCl := (CAll.of hR).2.2.2.2.2.2.2.1
  rcases h with ⟨h1, h2⟩ | ⟨a, h1, h2, h3, h4, h5, h6⟩
  · rcases h' with ⟨g1, g2⟩ | ⟨c, g1, g2, g3, g4, g5, g6⟩
    · omega
    · have := h2 c g2 g3 g4
      rw [g5] at this
      cases this
  · rcases h' with ⟨g1, g2⟩ | ⟨c, g1, g2, g3, g4, g5, g6⟩
    · have := g2 a h2 h3 h4
      rw [h5] at this
      cases this
    · have e1 : ¬ vI m0 125 c < vI m0 125 a := fun e => by
        have := h6 c g2 g3 g4 e
        rw [g5] at this
        cases this
      have e2 : ¬ vI m0 125 a < vI m0 125 c := fun e => by
        have := g6 a h2 h3 h4 e
        rw [h5] at this
        cases this
      have : a = c := Classical.byContradiction fun e => (hCl a c h2.1 g2.1 e h2.2.1 (by omega)).2.1 (by rw [h3, g3])
      omega
theorem behindC {m0 w : qM} (hR : R0 m0) {s : Nat → Nat → Int} {K : Nat} (hS : SI (vI m0) s) (h : CS m0 s K w) (t : Nat) (ht : t < 10) (u : Nat) (hu : u < 800) (sa : Nat) (hsa : sa < 20) : ∃ z, swQ (vI m0) s t sa u z ∧ fX1_meetOneBehind_12 FU (Zi u) (Zi t) (Zi ((sa : Int) + 1)) w = if z = -1 then some ((), w) else qbV (fX1_meet (Zi z) (Zi u) (Zi (vI m0 99 0 + s 139 z.toNat)) w) (fun m13 => some ((), m13)) := by
  have hA := CS.all hR h.1
  have hD := DOk.of hA
  have n2 := hD.2.2.2.2.2.1
  have loop : ∀ (r i g : Nat), i + r = 20 → r < g → sa < i → (∀ o, opn (vI m0) s o → vI m0 124 o = t → (sa : Int) < vI m0 125 o → vI m0 125 o < i → hrB (vI m0) s o u = false) → ∃ z, swQ (vI m0) s t sa u z ∧ fX1_meetOneBehind_12 g (Zi u) (Zi t) (Zi i) w = if z = -1 then some ((), w) else qbV (fX1_meet (Zi z) (Zi u) (Zi (vI m0 99 0 + s 139 z.toNat)) w) (fun m13 => some ((), m13)) := by
    intro r
    induction r with
    | zero =>
      intro i g hi hg hsi hn
      obtain ⟨g, rfl⟩ : ∃ g', g = g' + 1 := ⟨g - 1, by omega⟩
      have : i = 20 := by omega
      subst this
      refine ⟨-1, Or.inl ⟨rfl, fun o q1 q2 q3 => hn o q1 q2 q3 (by have := (hD.2.2.2.2.2.2 o q1.1).2.2.2; omega)⟩, ?_⟩
      rw [if_pos rfl]
      simp (disch := omega) only [fX1_meetOneBehind_12, qbI_s, qbL_s, qbV_s, qbR_s, qbR_n, qbN_s, qbN_n, qbIX_s, qbIX_n, qbVX_s, qbVX_n, cond_true, cond_false, cond_dec, jadd, jsub, jmul, jneg, li_0, li_1, li_2, li_3, li_4, li_5, li_6, li_7, li_8, li_9, li_10, li_14, li_15, li_16, li_19, li_20, li_24, li_30, li_31, li_32, li_39, li_40, li_48, li_57, li_59, li_60, li_63, li_65, li_80, li_81, li_90, li_97, li_99, li_100, li_122, li_126, li_127, li_150, li_160, li_200, li_225, li_255, li_400, li_799, li_800, li_999, li_2400, li_3239, li_3240, li_1048575, li_1431655765, li_858993459, li_252645135, eqb_j, ltb_j, leb_j, inb_j, ix_j, ix_n, nz_b, nz_0, nz_1, eqb_b, bnot, vI_ne, vI_eq, gIL, gLI, gIR, gRI, gLR, gRL, Int.reduceLT, Int.reduceLE, Int.reduceEq, Int.reduceAdd, Int.reduceSub, Int.reduceMul, Int.reduceNeg, Int.reduceToNat, Nat.reduceEqDiff, reduceIte, if_neg, if_pos, gI_ne]
    | succ r ih =>
      intro i g hi hg hsi hn
      obtain ⟨g, rfl⟩ : ∃ g', g = g' + 1 := ⟨g - 1, by omega⟩
      have hb := has_s (gI w 85 t) i (by omega) w
      rw [h.2.2.1 t i ht (by omega)] at hb
      have inA := evIn hA t i ht (by omega)
      have rv := vI_r w 64 (20 * t + i)
      by_cases g2 : opS (vI m0) s t i
      · obtain ⟨o, o1, o2, o3⟩ := g2
        rw [pd_t ⟨o, o1, o2, o3⟩] at hb
        have iA := evAt hR h.1 s o t i o1 o2 o3 ht (by omega)
        have hh := hereC hR hS h o o1.1 u (by omega)
        obtain ⟨fA, fr⟩ := fullC hR hS h o o1.1
        have o40 := o1.1
        cases c : hrB (vI m0) s o u
        · rw [c] at hh
          obtain ⟨z, z1, z2⟩ := ih (i + 1) g (by omega) (by omega) (by omega) (fun o' q1 q2 q3 q4 => by
            by_cases e : vI m0 125 o' = i
            · have : o' = o := Classical.byContradiction fun e9 => (hA.2.2.2.2.2.2.2.1 o' o q1.1 o1.1 e9 q1.2.1 (by omega)).2.1 (by rw [q2, o2])
              rw [this]; exact c
            · exact hn o' q1 q2 q3 (by omega))
          refine ⟨z, z1, ?_⟩
          simp (disch := omega) only [fX1_meetOneBehind_12, fX1_meetOneBehind_41, qbI_s, qbL_s, qbV_s, qbR_s, qbR_n, qbN_s, qbN_n, qbIX_s, qbIX_n, qbVX_s, qbVX_n, cond_true, cond_false, cond_dec, jadd, jsub, jmul, jneg, li_0, li_1, li_2, li_3, li_4, li_5, li_6, li_7, li_8, li_9, li_10, li_14, li_15, li_16, li_19, li_20, li_24, li_30, li_31, li_32, li_39, li_40, li_48, li_57, li_59, li_60, li_63, li_65, li_80, li_81, li_90, li_97, li_99, li_100, li_122, li_126, li_127, li_150, li_160, li_200, li_225, li_255, li_400, li_799, li_800, li_999, li_2400, li_3239, li_3240, li_1048575, li_1431655765, li_858993459, li_252645135, eqb_j, ltb_j, leb_j, inb_j, ix_j, ix_n, nz_b, nz_0, nz_1, eqb_b, bnot, vI_ne, vI_eq, gIL, gLI, gIR, gRI, gLR, gRL, Int.reduceLT, Int.reduceLE, Int.reduceEq, Int.reduceAdd, Int.reduceSub, Int.reduceMul, Int.reduceNeg, Int.reduceToNat, Nat.reduceEqDiff, reduceIte, if_neg, if_pos, gI_ne, iA, hb, hh, show bI true = 1 from rfl, show bI false = 0 from rfl]
          exact z2
        · rw [c] at hh
          refine ⟨o, Or.inr ⟨o, rfl, o1, o2, by omega, c, fun o' q1 q2 q3 q4 => hn o' q1 q2 q3 (by omega)⟩, ?_⟩
          rw [if_neg (by omega), Int.toNat_natCast]
          simp (disch := omega) only [fX1_meetOneBehind_12, fX1_meetOneBehind_41, qbI_s, qbL_s, qbV_s, qbR_s, qbR_n, qbN_s, qbN_n, qbIX_s, qbIX_n, qbVX_s, qbVX_n, cond_true, cond_false, cond_dec, jadd, jsub, jmul, jneg, li_0, li_1, li_2, li_3, li_4, li_5, li_6, li_7, li_8, li_9, li_10, li_14, li_15, li_16, li_19, li_20, li_24, li_30, li_31, li_32, li_39, li_40, li_48, li_57, li_59, li_60, li_63, li_65, li_80, li_81, li_90, li_97, li_99, li_100, li_122, li_126, li_127, li_150, li_160, li_200, li_225, li_255, li_400, li_799, li_800, li_999, li_2400, li_3239, li_3240, li_1048575, li_1431655765, li_858993459, li_252645135, eqb_j, ltb_j, leb_j, inb_j, ix_j, ix_n, nz_b, nz_0, nz_1, eqb_b, bnot, vI_ne, vI_eq, gIL, gLI, gIR, gRI, gLR, gRL, Int.reduceLT, Int.reduceLE, Int.reduceEq, Int.reduceAdd, Int.reduceSub, Int.reduceMul, Int.reduceNeg, Int.reduceToNat, Nat.reduceEqDiff, reduceIte, if_neg, if_pos, gI_ne, iA, hb, hh, fA, show bI true = 1 from rfl]
      · rw [pd_f g2] at hb
        obtain ⟨z, z1, z2⟩ := ih (i + 1) g (by omega) (by omega) (by omega) (fun o' q1 q2 q3 q4 => by
          by_cases e : vI m0 125 o' = i
          · exact absurd ⟨o', q1, q2, e⟩ g2
          · exact hn o' q1 q2 q3 (by omega))
        refine ⟨z, z1, ?_⟩
        simp (disch := omega) only [fX1_meetOneBehind_12, fX1_meetOneBehind_41, qbI_s, qbL_s, qbV_s, qbR_s, qbR_n, qbN_s, qbN_n, qbIX_s, qbIX_n, qbVX_s, qbVX_n, cond_true, cond_false, cond_dec, jadd, jsub, jmul, jneg, li_0, li_1, li_2, li_3, li_4, li_5, li_6, li_7, li_8, li_9, li_10, li_14, li_15, li_16, li_19, li_20, li_24, li_30, li_31, li_32, li_39, li_40, li_48, li_57, li_59, li_60, li_63, li_65, li_80, li_81, li_90, li_97, li_99, li_100, li_122, li_126, li_127, li_150, li_160, li_200, li_225, li_255, li_400, li_799, li_800, li_999, li_2400, li_3239, li_3240, li_1048575, li_1431655765, li_858993459, li_252645135, eqb_j, ltb_j, leb_j, inb_j, ix_j, ix_n, nz_b, nz_0, nz_1, eqb_b, bnot, vI_ne, vI_eq, gIL, gLI, gIR, gRI, gLR, gRL, Int.reduceLT, Int.reduceLE, Int.reduceEq, Int.reduceAdd, Int.reduceSub, Int.reduceMul, Int.reduceNeg, Int.reduceToNat, Nat.reduceEqDiff, reduceIte, if_neg, if_pos, gI_ne, inA, hb, show bI false = 0 from rfl]
        exact z2
  exact loop (20 - (sa + 1)) (sa + 1) FU (by omega) (by rw [FU_d]; omega) (by omega) (fun o q1 q2 q3 q4 => by omega)
theorem behindM {d s : Nat → Nat → Int} {K : Nat} {v : qM} (hCl : CClash v d) (hD : DOk d) (hS : SI d s) (h : MS d s K v) (t : Nat) (ht : t < 10) (u : Nat) (hu : u < 800) (a : Nat) (ha : (a : Int) < d 98 32) (hat : d 124 a = t) (sa : Int) (hsa : 0 ≤ sa ∧ sa < 20) (k94 : Int32 → Int32 → qM → Option (Unit × qM)) : ∃ z, swQ d s t sa u z ∧ (-1 ≤ z ∧ z < 40) ∧ qbI (fX13_frontOf (Zi t) (Zi sa) v) (fun x5 m6 => fX13_does_74 k94 FU (Zi a) (Zi u) x5 m6) = k94 (Zi u) (Zi z) v := by
  have n2 := hD.2.2.2.2.2.1
  have e124 := h.1 124 a (by unfold dE; omega)
  have loop : ∀ (r g : Nat) (b z : Int), (r : Int) = 20 - b → r < g → sa ≤ b ∧ b < 20 → (∀ o, opn d s o → d 124 o = t → sa < d 125 o → d 125 o ≤ b → hrB d s o u = false) → frQ d s t b (d 98 32).toNat z → ∃ z', swQ d s t sa u z' ∧ (-1 ≤ z' ∧ z' < 40) ∧ fX13_does_74 k94 g (Zi a) (Zi u) (Zi z) v = k94 (Zi u) (Zi z') v := by
    intro r
    induction r using Nat.strongRecOn with
    | _ r ih =>
    intro g b z hr hg hb hn hz
    obtain ⟨g, rfl⟩ : ∃ g', g = g' + 1 := ⟨g - 1, by omega⟩
    rcases hz with ⟨h1, h2⟩ | ⟨c, h1, h2, h3, h4, h5, h6⟩
    · refine ⟨-1, Or.inl ⟨rfl, fun o q1 q2 q3 => hn o q1 q2 q3 (h2 o (by have := q1.1; omega) q1 q2)⟩, by omega, ?_⟩
      rw [h1]
      simp (disch := omega) only [fX13_does_74, qbI_s, qbL_s, qbV_s, qbR_s, qbR_n, qbN_s, qbN_n, qbIX_s, qbIX_n, qbVX_s, qbVX_n, cond_true, cond_false, cond_dec, jadd, jsub, jmul, jneg, li_0, li_1, li_2, li_3, li_4, li_5, li_6, li_7, li_8, li_9, li_10, li_14, li_15, li_16, li_19, li_20, li_24, li_30, li_31, li_32, li_39, li_40, li_48, li_57, li_59, li_60, li_63, li_65, li_80, li_81, li_90, li_97, li_99, li_100, li_122, li_126, li_127, li_150, li_160, li_200, li_225, li_255, li_400, li_799, li_800, li_999, li_2400, li_3239, li_3240, li_1048575, li_1431655765, li_858993459, li_252645135, eqb_j, ltb_j, leb_j, inb_j, ix_j, ix_n, nz_b, nz_0, nz_1, eqb_b, bnot, vI_ne, vI_eq, gIL, gLI, gIR, gRI, gLR, gRL, Int.reduceLT, Int.reduceLE, Int.reduceEq, Int.reduceAdd, Int.reduceSub, Int.reduceMul, Int.reduceNeg, Int.reduceToNat, Nat.reduceEqDiff, reduceIte, if_neg, if_pos, gI_ne, show (-1 : Int32) = Zi (-1) from rfl]
    · have hh := hereM hD hS h c h3.1 u (by omega)
      have k9 := (hD.2.2.2.2.2.2 c h3.1).2.2.2
      have e125 := h.1 125 c (by unfold dE; omega)
      cases q : hrB d s c u
      · rw [q] at hh
        obtain ⟨z2, f1, f2⟩ := frontM hD hS h t ht (d 125 c) (by omega)
        obtain ⟨z', g1, g2, g3⟩ := ih (20 - (d 125 c).toNat) (by omega) g (d 125 c) z2 (by omega) (by omega) (by omega) (fun o q1 q2 q3 q4 => by
          by_cases e : d 125 o ≤ b
          · exact hn o q1 q2 q3 e
          · have e9 : d 125 c ≤ d 125 o := h6 o (by have := q1.1; omega) q1 q2 (by omega)
            have : o = c := Classical.byContradiction fun e8 => (hCl o c q1.1 h3.1 e8 q1.2.1 (by omega)).2.1 (by rw [q2, h4])
            rw [this]; exact q) f2
        refine ⟨z', g1, g2, ?_⟩
        rw [h1]
        simp (disch := omega) only [fX13_does_74, qbI_s, qbL_s, qbV_s, qbR_s, qbR_n, qbN_s, qbN_n, qbIX_s, qbIX_n, qbVX_s, qbVX_n, cond_true, cond_false, cond_dec, jadd, jsub, jmul, jneg, li_0, li_1, li_2, li_3, li_4, li_5, li_6, li_7, li_8, li_9, li_10, li_14, li_15, li_16, li_19, li_20, li_24, li_30, li_31, li_32, li_39, li_40, li_48, li_57, li_59, li_60, li_63, li_65, li_80, li_81, li_90, li_97, li_99, li_100, li_122, li_126, li_127, li_150, li_160, li_200, li_225, li_255, li_400, li_799, li_800, li_999, li_2400, li_3239, li_3240, li_1048575, li_1431655765, li_858993459, li_252645135, eqb_j, ltb_j, leb_j, inb_j, ix_j, ix_n, nz_b, nz_0, nz_1, eqb_b, bnot, vI_ne, vI_eq, gIL, gLI, gIR, gRI, gLR, gRL, Int.reduceLT, Int.reduceLE, Int.reduceEq, Int.reduceAdd, Int.reduceSub, Int.reduceMul, Int.reduceNeg, Int.reduceToNat, Nat.reduceEqDiff, reduceIte, if_neg, if_pos, gI_ne, hh, gIv 124, e124, hat, gIv 125, e125, f1, show bI false = 0 from rfl, show (-1 : Int32) = Zi (-1) from rfl]
        exact g3
      · rw [q] at hh
        refine ⟨c, Or.inr ⟨c, rfl, h3, h4, by omega, q, fun o q1 q2 q3 q4 => ?_⟩, by omega, ?_⟩
        · by_cases e : d 125 o ≤ b
          · exact hn o q1 q2 q3 e
          · have := h6 o (by have := q1.1; omega) q1 q2 (by omega)
            omega
        · rw [h1]
          simp (disch := omega) only [fX13_does_74, qbI_s, qbL_s, qbV_s, qbR_s, qbR_n, qbN_s, qbN_n, qbIX_s, qbIX_n, qbVX_s, qbVX_n, cond_true, cond_false, cond_dec, jadd, jsub, jmul, jneg, li_0, li_1, li_2, li_3, li_4, li_5, li_6, li_7, li_8, li_9, li_10, li_14, li_15, li_16, li_19, li_20, li_24, li_30, li_31, li_32, li_39, li_40, li_48, li_57, li_59, li_60, li_63, li_65, li_80, li_81, li_90, li_97, li_99, li_100, li_122, li_126, li_127, li_150, li_160, li_200, li_225, li_255, li_400, li_799, li_800, li_999, li_2400, li_3239, li_3240, li_1048575, li_1431655765, li_858993459, li_252645135, eqb_j, ltb_j, leb_j, inb_j, ix_j, ix_n, nz_b, nz_0, nz_1, eqb_b, bnot, vI_ne, vI_eq, gIL, gLI, gIR, gRI, gLR, gRL, Int.reduceLT, Int.reduceLE, Int.reduceEq, Int.reduceAdd, Int.reduceSub, Int.reduceMul, Int.reduceNeg, Int.reduceToNat, Nat.reduceEqDiff, reduceIte, if_neg, if_pos, gI_ne, hh, show bI true = 1 from rfl, show (-1 : Int32) = Zi (-1) from rfl]
  obtain ⟨z, f1, f2⟩ := frontM hD hS h t ht sa (by omega)
  obtain ⟨z', g1, g2, g3⟩ := loop (20 - sa).toNat FU sa z (by omega) (by rw [FU_d]; omega) (by omega) (fun o q1 q2 q3 q4 => by omega) f2
  refine ⟨z', g1, g2, ?_⟩
  rw [f1, qbI_s]
  exact g3
def DynF (c _k : Nat) : Prop := 139 ≤ c ∧ c ≤ 149
theorem hereB {m0 w : qM} (hR : R0 m0) {s : Nat → Nat → Int} {K : Nat} (hS : SI (vI m0) s) (h : CS m0 s K w) (hD : DOk (vI m0)) (a : Nat) (ha : (a : Int) < vI m0 98 32) (u : Nat) (hu : u < 800) : fX1_isHere (Zi a) (Zi u) w = some (Zi (bI (hrB (vI m0) s a u)), w) ∧ ∀ v, MS (vI m0) s K v → fX13_isHere (Zi a) (Zi u) v = some (Zi (bI (hrB (vI m0) s a u)), v) :=
  ⟨hereC hR hS h a ha u (by omega), fun _ hv => hereM hD hS hv a ha u (by omega)⟩
/-- without a policy -/
theorem plainB {m0 w : qM} (hR : R0 m0) {s : Nat → Nat → Int} {K t u : Nat} (hK : K ≤ 80) (ht : t < 10) (hS : SI (vI m0) s) (h : CS m0 s K w) (hu : u < 800) (hl : LkC s w t u) (a : Nat) (ha : opn (vI m0) s a) (hat : vI m0 124 a = t) (L : Int) (hL : L = (u : Int) - vI m0 99 0 * vI m0 125 a) : ∃ s' w', fX1_actPlainly (Zi a) (Zi u) (Zi L) w = some ((), w') ∧ OutC m0 s K w t u s' w' ∧ ∀ v, MS (vI m0) s K v → ∃ v', fX13_look_55 (Zi u) (Zi a) v = some ((), v') ∧ MS (vI m0) s' K v' ∧ Fr DynF v v' := by
  have hA := CS.all hR h.1
  have hD := DOk.of hA
  have n2 := hD.2.2.2.2.2.1
  have r3 := hD.1.2.2.2.1
  have a1 := ha.1
  obtain ⟨hhC, hhM⟩ := hereB hR hS h hD a a1 u hu
  have mr := min_r hD a a1 ha.2.1
  have tol := evTold hA 3 (by omega)
  change fX7_told (Zi 3) w = _ at tol
  obtain ⟨fA, fr⟩ := fullC hR hS h a a1
  cases c : hrB (vI m0) s a u
  · rw [c] at hhC hhM
    by_cases g : vI m0 99 3 < L
    · obtain ⟨x, w', e, hO⟩ := OutC.miss hR hS h hu hl a ha hat
      refine ⟨_, w', ?_, hO, fun v hv => ⟨sI v 149 a (Zi 1), ?_, hv.set 149 a (by omega) 1 (by omega), (Fr.rf v).wI 149 a _ (by unfold DynF; omega)⟩⟩
      · rw [fX1_actPlainly_d]
        simp (disch := omega) only [fX1_actPlainly_0, fX1_actPlainly_22, qbI_s, qbL_s, qbV_s, qbR_s, qbR_n, qbN_s, qbN_n, qbIX_s, qbIX_n, qbVX_s, qbVX_n, cond_true, cond_false, cond_dec, jadd, jsub, jmul, jneg, li_0, li_1, li_2, li_3, li_4, li_5, li_6, li_7, li_8, li_9, li_10, li_14, li_15, li_16, li_19, li_20, li_24, li_30, li_31, li_32, li_39, li_40, li_48, li_57, li_59, li_60, li_63, li_65, li_80, li_81, li_90, li_97, li_99, li_100, li_122, li_126, li_127, li_150, li_160, li_200, li_225, li_255, li_400, li_799, li_800, li_999, li_2400, li_3239, li_3240, li_1048575, li_1431655765, li_858993459, li_252645135, eqb_j, ltb_j, leb_j, inb_j, ix_j, ix_n, nz_b, nz_0, nz_1, eqb_b, bnot, vI_ne, vI_eq, gIL, gLI, gIR, gRI, gLR, gRL, Int.reduceLT, Int.reduceLE, Int.reduceEq, Int.reduceAdd, Int.reduceSub, Int.reduceMul, Int.reduceNeg, Int.reduceToNat, Nat.reduceEqDiff, reduceIte, if_neg, if_pos, gI_ne, hhC, tol, e, show bI false = 0 from rfl]
      · have mM := minM hD hv a a1 ha.2.1
        have e3 := hv.1 99 3 (by unfold dE; omega)
        have hM := hhM v hv
        simp (disch := omega) only [fX13_look_55, fX13_look_89, qbI_s, qbL_s, qbV_s, qbR_s, qbR_n, qbN_s, qbN_n, qbIX_s, qbIX_n, qbVX_s, qbVX_n, cond_true, cond_false, cond_dec, jadd, jsub, jmul, jneg, li_0, li_1, li_2, li_3, li_4, li_5, li_6, li_7, li_8, li_9, li_10, li_14, li_15, li_16, li_19, li_20, li_24, li_30, li_31, li_32, li_39, li_40, li_48, li_57, li_59, li_60, li_63, li_65, li_80, li_81, li_90, li_97, li_99, li_100, li_122, li_126, li_127, li_150, li_160, li_200, li_225, li_255, li_400, li_799, li_800, li_999, li_2400, li_3239, li_3240, li_1048575, li_1431655765, li_858993459, li_252645135, eqb_j, ltb_j, leb_j, inb_j, ix_j, ix_n, nz_b, nz_0, nz_1, eqb_b, bnot, vI_ne, vI_eq, gIL, gLI, gIR, gRI, gLR, gRL, Int.reduceLT, Int.reduceLE, Int.reduceEq, Int.reduceAdd, Int.reduceSub, Int.reduceMul, Int.reduceNeg, Int.reduceToNat, Nat.reduceEqDiff, reduceIte, if_neg, if_pos, gI_ne, hM, mM, gIv 99, e3, ← hL, show bI false = 0 from rfl]
    · refine ⟨s, w, ?_, OutC.none hS h hu hl (fun _ => rfl), fun v hv => ⟨v, ?_, hv, Fr.rf v⟩⟩
      · rw [fX1_actPlainly_d]
        simp (disch := omega) only [fX1_actPlainly_0, fX1_actPlainly_22, qbI_s, qbL_s, qbV_s, qbR_s, qbR_n, qbN_s, qbN_n, qbIX_s, qbIX_n, qbVX_s, qbVX_n, cond_true, cond_false, cond_dec, jadd, jsub, jmul, jneg, li_0, li_1, li_2, li_3, li_4, li_5, li_6, li_7, li_8, li_9, li_10, li_14, li_15, li_16, li_19, li_20, li_24, li_30, li_31, li_32, li_39, li_40, li_48, li_57, li_59, li_60, li_63, li_65, li_80, li_81, li_90, li_97, li_99, li_100, li_122, li_126, li_127, li_150, li_160, li_200, li_225, li_255, li_400, li_799, li_800, li_999, li_2400, li_3239, li_3240, li_1048575, li_1431655765, li_858993459, li_252645135, eqb_j, ltb_j, leb_j, inb_j, ix_j, ix_n, nz_b, nz_0, nz_1, eqb_b, bnot, vI_ne, vI_eq, gIL, gLI, gIR, gRI, gLR, gRL, Int.reduceLT, Int.reduceLE, Int.reduceEq, Int.reduceAdd, Int.reduceSub, Int.reduceMul, Int.reduceNeg, Int.reduceToNat, Nat.reduceEqDiff, reduceIte, if_neg, if_pos, gI_ne, hhC, tol, show bI false = 0 from rfl]
      · have mM := minM hD hv a a1 ha.2.1
        have e3 := hv.1 99 3 (by unfold dE; omega)
        have hM := hhM v hv
        simp (disch := omega) only [fX13_look_55, fX13_look_89, qbI_s, qbL_s, qbV_s, qbR_s, qbR_n, qbN_s, qbN_n, qbIX_s, qbIX_n, qbVX_s, qbVX_n, cond_true, cond_false, cond_dec, jadd, jsub, jmul, jneg, li_0, li_1, li_2, li_3, li_4, li_5, li_6, li_7, li_8, li_9, li_10, li_14, li_15, li_16, li_19, li_20, li_24, li_30, li_31, li_32, li_39, li_40, li_48, li_57, li_59, li_60, li_63, li_65, li_80, li_81, li_90, li_97, li_99, li_100, li_122, li_126, li_127, li_150, li_160, li_200, li_225, li_255, li_400, li_799, li_800, li_999, li_2400, li_3239, li_3240, li_1048575, li_1431655765, li_858993459, li_252645135, eqb_j, ltb_j, leb_j, inb_j, ix_j, ix_n, nz_b, nz_0, nz_1, eqb_b, bnot, vI_ne, vI_eq, gIL, gLI, gIR, gRI, gLR, gRL, Int.reduceLT, Int.reduceLE, Int.reduceEq, Int.reduceAdd, Int.reduceSub, Int.reduceMul, Int.reduceNeg, Int.reduceToNat, Nat.reduceEqDiff, reduceIte, if_neg, if_pos, gI_ne, hM, mM, gIv 99, e3, ← hL, show bI false = 0 from rfl]
  · rw [c] at hhC hhM
    obtain ⟨x, w', e, hO⟩ := OutC.start hR hK ht hS h hu hl a ha hat (vI m0 99 0 + s 139 a) (by omega)
    refine ⟨_, w', ?_, hO, fun v hv => ?_⟩
    · rw [fX1_actPlainly_d]
      simp (disch := omega) only [fX1_actPlainly_0, fX1_actPlainly_22, qbI_s, qbL_s, qbV_s, qbR_s, qbR_n, qbN_s, qbN_n, qbIX_s, qbIX_n, qbVX_s, qbVX_n, cond_true, cond_false, cond_dec, jadd, jsub, jmul, jneg, li_0, li_1, li_2, li_3, li_4, li_5, li_6, li_7, li_8, li_9, li_10, li_14, li_15, li_16, li_19, li_20, li_24, li_30, li_31, li_32, li_39, li_40, li_48, li_57, li_59, li_60, li_63, li_65, li_80, li_81, li_90, li_97, li_99, li_100, li_122, li_126, li_127, li_150, li_160, li_200, li_225, li_255, li_400, li_799, li_800, li_999, li_2400, li_3239, li_3240, li_1048575, li_1431655765, li_858993459, li_252645135, eqb_j, ltb_j, leb_j, inb_j, ix_j, ix_n, nz_b, nz_0, nz_1, eqb_b, bnot, vI_ne, vI_eq, gIL, gLI, gIR, gRI, gLR, gRL, Int.reduceLT, Int.reduceLE, Int.reduceEq, Int.reduceAdd, Int.reduceSub, Int.reduceMul, Int.reduceNeg, Int.reduceToNat, Nat.reduceEqDiff, reduceIte, if_neg, if_pos, gI_ne, hhC, fA, e, show bI true = 1 from rfl]
    · obtain ⟨x2, v', e2, hM2, hF2⟩ := startM hD hS hv a a1 u (vI m0 99 0 + s 139 a) (by omega) (by omega)
      have e0 := hv.1 99 0 (by unfold dE; omega)
      have e139 := hv.2.1 139 a (by unfold dyn; omega)
      have hM := hhM v hv
      refine ⟨v', ?_, hM2, hF2.wide fun c k hc => hc⟩
      simp (disch := omega) only [fX13_look_55, fX13_look_89, qbI_s, qbL_s, qbV_s, qbR_s, qbR_n, qbN_s, qbN_n, qbIX_s, qbIX_n, qbVX_s, qbVX_n, cond_true, cond_false, cond_dec, jadd, jsub, jmul, jneg, li_0, li_1, li_2, li_3, li_4, li_5, li_6, li_7, li_8, li_9, li_10, li_14, li_15, li_16, li_19, li_20, li_24, li_30, li_31, li_32, li_39, li_40, li_48, li_57, li_59, li_60, li_63, li_65, li_80, li_81, li_90, li_97, li_99, li_100, li_122, li_126, li_127, li_150, li_160, li_200, li_225, li_255, li_400, li_799, li_800, li_999, li_2400, li_3239, li_3240, li_1048575, li_1431655765, li_858993459, li_252645135, eqb_j, ltb_j, leb_j, inb_j, ix_j, ix_n, nz_b, nz_0, nz_1, eqb_b, bnot, vI_ne, vI_eq, gIL, gLI, gIR, gRI, gLR, gRL, Int.reduceLT, Int.reduceLE, Int.reduceEq, Int.reduceAdd, Int.reduceSub, Int.reduceMul, Int.reduceNeg, Int.reduceToNat, Nat.reduceEqDiff, reduceIte, if_neg, if_pos, gI_ne, hM, gIv 99, gIv 139, e0, e139, e2, show bI true = 1 from rfl]
/-- by a line of a policy -/
theorem actB {m0 w : qM} (hR : R0 m0) {s : Nat → Nat → Int} {K t u : Nat} (hK : K ≤ 80) (ht : t < 10) (hS : SI (vI m0) s) (h : CS m0 s K w) (hu : u < 800) (hl : LkC s w t u) (a : Nat) (ha : opn (vI m0) s a) (hat : vI m0 124 a = t) (p l : Nat) (hp : p < 4) (hP : PolD (vI m0) p) (hlp : (l : Int) < vI m0 101 p) : ∃ s' w', fX1_act (Zi (vI m0 102 (8 * p + l))) (Zi (vI m0 103 (8 * p + l))) (Zi a) (Zi u) w = some ((), w') ∧ OutC m0 s K w t u s' w' ∧ ∀ v, MS (vI m0) s K v → ∃ v', fX13_does (Zi (8 * (p : Int) + l)) (Zi a) (Zi u) v = some ((), v') ∧ MS (vI m0) s' K v' ∧ Fr DynF v v' := by
  have hA := CS.all hR h.1
  have hD := DOk.of hA
  have n2 := hD.2.2.2.2.2.1
  have r0 := hD.1.1
  have a1 := ha.1
  obtain ⟨hhC, hhM⟩ := hereB hR hS h hD a a1 u hu
  obtain ⟨fA, fr⟩ := fullC hR hS h a a1
  have tA := evTea hA a a1
  rw [hat] at tA
  obtain ⟨p1, p2⟩ := hP
  obtain ⟨-, c2, c3, -⟩ := p2 l hlp
  obtain ⟨L, hL⟩ : ∃ L : Nat, L = 8 * p + l := ⟨_, rfl⟩
  have hL' : 8 * (p : Int) + l = (L : Nat) := by omega
  rw [hL', ← hL]
  rw [← hL] at c2 c3
  have L40 : L < 40 := by omega
  have e2 : ∀ v, MS (vI m0) s K v → vI v 102 L = vI m0 102 L ∧ vI v 103 L = vI m0 103 L ∧ vI v 99 0 = vI m0 99 0 ∧ vI v 139 a = s 139 a ∧ vI v 124 a = t ∧ vI v 125 a = vI m0 125 a := fun v hv => ⟨hv.1 102 L (by unfold dE; omega), hv.1 103 L (by unfold dE; omega), hv.1 99 0 (by unfold dE; omega), hv.2.1 139 a (by unfold dyn; omega), by rw [hv.1 124 a (by unfold dE; omega), hat], hv.1 125 a (by unfold dE; omega)⟩
  -- one begins, if here, for so many minutes
  have begins : ∀ n : Int, 0 ≤ n ∧ n ≤ 90 → ∃ s' w', fX1_meetIfHere (Zi a) (Zi u) (Zi n) w = some ((), w') ∧ OutC m0 s K w t u s' w' ∧ ∀ v, MS (vI m0) s K v → ∃ v', MS (vI m0) s' K v' ∧ Fr DynF v v' ∧ (hrB (vI m0) s a u = false → v' = v) ∧ (hrB (vI m0) s a u = true → fX13_start (Zi a) (Zi u) (Zi n) v = some ((), v')) := by
    intro n hn
    cases c : hrB (vI m0) s a u
    · rw [c] at hhC
      refine ⟨s, w, ?_, OutC.none hS h hu hl (fun _ => rfl), fun v hv => ⟨v, hv, Fr.rf v, fun _ => rfl, fun z => (by cases z)⟩⟩
      rw [fX1_meetIfHere_d]
      simp (disch := omega) only [fX1_meetIfHere_0, fX1_meetIfHere_10, qbI_s, qbL_s, qbV_s, qbR_s, qbR_n, qbN_s, qbN_n, qbIX_s, qbIX_n, qbVX_s, qbVX_n, cond_true, cond_false, cond_dec, jadd, jsub, jmul, jneg, li_0, li_1, li_2, li_3, li_4, li_5, li_6, li_7, li_8, li_9, li_10, li_14, li_15, li_16, li_19, li_20, li_24, li_30, li_31, li_32, li_39, li_40, li_48, li_57, li_59, li_60, li_63, li_65, li_80, li_81, li_90, li_97, li_99, li_100, li_122, li_126, li_127, li_150, li_160, li_200, li_225, li_255, li_400, li_799, li_800, li_999, li_2400, li_3239, li_3240, li_1048575, li_1431655765, li_858993459, li_252645135, eqb_j, ltb_j, leb_j, inb_j, ix_j, ix_n, nz_b, nz_0, nz_1, eqb_b, bnot, vI_ne, vI_eq, gIL, gLI, gIR, gRI, gLR, gRL, Int.reduceLT, Int.reduceLE, Int.reduceEq, Int.reduceAdd, Int.reduceSub, Int.reduceMul, Int.reduceNeg, Int.reduceToNat, Nat.reduceEqDiff, reduceIte, if_neg, if_pos, gI_ne, hhC, show bI false = 0 from rfl]
    · rw [c] at hhC
      obtain ⟨x, w', e, hO⟩ := OutC.start hR hK ht hS h hu hl a ha hat n hn
      refine ⟨_, w', ?_, hO, fun v hv => ?_⟩
      · rw [fX1_meetIfHere_d]
        simp (disch := omega) only [fX1_meetIfHere_0, fX1_meetIfHere_10, qbI_s, qbL_s, qbV_s, qbR_s, qbR_n, qbN_s, qbN_n, qbIX_s, qbIX_n, qbVX_s, qbVX_n, cond_true, cond_false, cond_dec, jadd, jsub, jmul, jneg, li_0, li_1, li_2, li_3, li_4, li_5, li_6, li_7, li_8, li_9, li_10, li_14, li_15, li_16, li_19, li_20, li_24, li_30, li_31, li_32, li_39, li_40, li_48, li_57, li_59, li_60, li_63, li_65, li_80, li_81, li_90, li_97, li_99, li_100, li_122, li_126, li_127, li_150, li_160, li_200, li_225, li_255, li_400, li_799, li_800, li_999, li_2400, li_3239, li_3240, li_1048575, li_1431655765, li_858993459, li_252645135, eqb_j, ltb_j, leb_j, inb_j, ix_j, ix_n, nz_b, nz_0, nz_1, eqb_b, bnot, vI_ne, vI_eq, gIL, gLI, gIR, gRI, gLR, gRL, Int.reduceLT, Int.reduceLE, Int.reduceEq, Int.reduceAdd, Int.reduceSub, Int.reduceMul, Int.reduceNeg, Int.reduceToNat, Nat.reduceEqDiff, reduceIte, if_neg, if_pos, gI_ne, hhC, e, show bI true = 1 from rfl]
      · obtain ⟨x2, v', e9, hM2, hF2⟩ := startM hD hS hv a a1 u n (by omega) hn
        exact ⟨v', hM2, hF2.wide fun c k hc => hc, fun z => (by cases z), fun _ => e9⟩
  rw [fX1_act_d, fX13_does_d]
  rcases (show vI m0 102 L = 0 ∨ vI m0 102 L = 1 ∨ vI m0 102 L = 2 ∨ vI m0 102 L = 3 ∨ vI m0 102 L = 4 ∨ vI m0 102 L = 5 by omega) with g | g | g | g | g | g
  · obtain ⟨x, w', e, hO⟩ := OutC.miss hR hS h hu hl a ha hat
    refine ⟨_, w', ?_, hO, fun v hv => ⟨sI v 149 a (Zi 1), ?_, hv.set 149 a (by omega) 1 (by omega), (Fr.rf v).wI 149 a _ (by unfold DynF; omega)⟩⟩
    · simp (disch := omega) only [fX1_act_0, fX1_act_40, qbI_s, qbL_s, qbV_s, qbR_s, qbR_n, qbN_s, qbN_n, qbIX_s, qbIX_n, qbVX_s, qbVX_n, cond_true, cond_false, cond_dec, jadd, jsub, jmul, jneg, li_0, li_1, li_2, li_3, li_4, li_5, li_6, li_7, li_8, li_9, li_10, li_14, li_15, li_16, li_19, li_20, li_24, li_30, li_31, li_32, li_39, li_40, li_48, li_57, li_59, li_60, li_63, li_65, li_80, li_81, li_90, li_97, li_99, li_100, li_122, li_126, li_127, li_150, li_160, li_200, li_225, li_255, li_400, li_799, li_800, li_999, li_2400, li_3239, li_3240, li_1048575, li_1431655765, li_858993459, li_252645135, eqb_j, ltb_j, leb_j, inb_j, ix_j, ix_n, nz_b, nz_0, nz_1, eqb_b, bnot, vI_ne, vI_eq, gIL, gLI, gIR, gRI, gLR, gRL, Int.reduceLT, Int.reduceLE, Int.reduceEq, Int.reduceAdd, Int.reduceSub, Int.reduceMul, Int.reduceNeg, Int.reduceToNat, Nat.reduceEqDiff, reduceIte, if_neg, if_pos, gI_ne, g, e]
    · obtain ⟨q1, q2, q3, q4, q5, q6⟩ := e2 v hv
      simp (disch := omega) only [fX13_does_0, fX13_does_111, qbI_s, qbL_s, qbV_s, qbR_s, qbR_n, qbN_s, qbN_n, qbIX_s, qbIX_n, qbVX_s, qbVX_n, cond_true, cond_false, cond_dec, jadd, jsub, jmul, jneg, li_0, li_1, li_2, li_3, li_4, li_5, li_6, li_7, li_8, li_9, li_10, li_14, li_15, li_16, li_19, li_20, li_24, li_30, li_31, li_32, li_39, li_40, li_48, li_57, li_59, li_60, li_63, li_65, li_80, li_81, li_90, li_97, li_99, li_100, li_122, li_126, li_127, li_150, li_160, li_200, li_225, li_255, li_400, li_799, li_800, li_999, li_2400, li_3239, li_3240, li_1048575, li_1431655765, li_858993459, li_252645135, eqb_j, ltb_j, leb_j, inb_j, ix_j, ix_n, nz_b, nz_0, nz_1, eqb_b, bnot, vI_ne, vI_eq, gIL, gLI, gIR, gRI, gLR, gRL, Int.reduceLT, Int.reduceLE, Int.reduceEq, Int.reduceAdd, Int.reduceSub, Int.reduceMul, Int.reduceNeg, Int.reduceToNat, Nat.reduceEqDiff, reduceIte, if_neg, if_pos, gI_ne, gIv 102, q1, g]
  · obtain ⟨s', w', e, hO, hv⟩ := begins _ (show 0 ≤ vI m0 99 0 + s 139 a ∧ _ by omega)
    refine ⟨s', w', ?_, hO, fun v hvv => ?_⟩
    · simp (disch := omega) only [fX1_act_0, fX1_act_40, qbI_s, qbL_s, qbV_s, qbR_s, qbR_n, qbN_s, qbN_n, qbIX_s, qbIX_n, qbVX_s, qbVX_n, cond_true, cond_false, cond_dec, jadd, jsub, jmul, jneg, li_0, li_1, li_2, li_3, li_4, li_5, li_6, li_7, li_8, li_9, li_10, li_14, li_15, li_16, li_19, li_20, li_24, li_30, li_31, li_32, li_39, li_40, li_48, li_57, li_59, li_60, li_63, li_65, li_80, li_81, li_90, li_97, li_99, li_100, li_122, li_126, li_127, li_150, li_160, li_200, li_225, li_255, li_400, li_799, li_800, li_999, li_2400, li_3239, li_3240, li_1048575, li_1431655765, li_858993459, li_252645135, eqb_j, ltb_j, leb_j, inb_j, ix_j, ix_n, nz_b, nz_0, nz_1, eqb_b, bnot, vI_ne, vI_eq, gIL, gLI, gIR, gRI, gLR, gRL, Int.reduceLT, Int.reduceLE, Int.reduceEq, Int.reduceAdd, Int.reduceSub, Int.reduceMul, Int.reduceNeg, Int.reduceToNat, Nat.reduceEqDiff, reduceIte, if_neg, if_pos, gI_ne, g, fA, e]
    · obtain ⟨v', k1, k2, k3, k4⟩ := hv v hvv
      obtain ⟨q1, q2, q3, q4, q5, q6⟩ := e2 v hvv
      have hM := hhM v hvv
      refine ⟨v', ?_, k1, k2⟩
      cases c : hrB (vI m0) s a u
      · rw [c] at hM
        rw [k3 c]
        simp (disch := omega) only [fX13_does_0, fX13_does_111, qbI_s, qbL_s, qbV_s, qbR_s, qbR_n, qbN_s, qbN_n, qbIX_s, qbIX_n, qbVX_s, qbVX_n, cond_true, cond_false, cond_dec, jadd, jsub, jmul, jneg, li_0, li_1, li_2, li_3, li_4, li_5, li_6, li_7, li_8, li_9, li_10, li_14, li_15, li_16, li_19, li_20, li_24, li_30, li_31, li_32, li_39, li_40, li_48, li_57, li_59, li_60, li_63, li_65, li_80, li_81, li_90, li_97, li_99, li_100, li_122, li_126, li_127, li_150, li_160, li_200, li_225, li_255, li_400, li_799, li_800, li_999, li_2400, li_3239, li_3240, li_1048575, li_1431655765, li_858993459, li_252645135, eqb_j, ltb_j, leb_j, inb_j, ix_j, ix_n, nz_b, nz_0, nz_1, eqb_b, bnot, vI_ne, vI_eq, gIL, gLI, gIR, gRI, gLR, gRL, Int.reduceLT, Int.reduceLE, Int.reduceEq, Int.reduceAdd, Int.reduceSub, Int.reduceMul, Int.reduceNeg, Int.reduceToNat, Nat.reduceEqDiff, reduceIte, if_neg, if_pos, gI_ne, gIv 102, q1, g, hM, show bI false = 0 from rfl]
      · rw [c] at hM
        have k9 := k4 c
        simp (disch := omega) only [fX13_does_0, fX13_does_111, qbI_s, qbL_s, qbV_s, qbR_s, qbR_n, qbN_s, qbN_n, qbIX_s, qbIX_n, qbVX_s, qbVX_n, cond_true, cond_false, cond_dec, jadd, jsub, jmul, jneg, li_0, li_1, li_2, li_3, li_4, li_5, li_6, li_7, li_8, li_9, li_10, li_14, li_15, li_16, li_19, li_20, li_24, li_30, li_31, li_32, li_39, li_40, li_48, li_57, li_59, li_60, li_63, li_65, li_80, li_81, li_90, li_97, li_99, li_100, li_122, li_126, li_127, li_150, li_160, li_200, li_225, li_255, li_400, li_799, li_800, li_999, li_2400, li_3239, li_3240, li_1048575, li_1431655765, li_858993459, li_252645135, eqb_j, ltb_j, leb_j, inb_j, ix_j, ix_n, nz_b, nz_0, nz_1, eqb_b, bnot, vI_ne, vI_eq, gIL, gLI, gIR, gRI, gLR, gRL, Int.reduceLT, Int.reduceLE, Int.reduceEq, Int.reduceAdd, Int.reduceSub, Int.reduceMul, Int.reduceNeg, Int.reduceToNat, Nat.reduceEqDiff, reduceIte, if_neg, if_pos, gI_ne, gIv 102, q1, g, hM, gIv 99, gIv 139, q3, q4, k9, show bI true = 1 from rfl]
  · refine ⟨s, w, ?_, OutC.none hS h hu hl (fun _ => rfl), fun v hv => ⟨v, ?_, hv, Fr.rf v⟩⟩
    · simp (disch := omega) only [fX1_act_0, fX1_act_40, qbI_s, qbL_s, qbV_s, qbR_s, qbR_n, qbN_s, qbN_n, qbIX_s, qbIX_n, qbVX_s, qbVX_n, cond_true, cond_false, cond_dec, jadd, jsub, jmul, jneg, li_0, li_1, li_2, li_3, li_4, li_5, li_6, li_7, li_8, li_9, li_10, li_14, li_15, li_16, li_19, li_20, li_24, li_30, li_31, li_32, li_39, li_40, li_48, li_57, li_59, li_60, li_63, li_65, li_80, li_81, li_90, li_97, li_99, li_100, li_122, li_126, li_127, li_150, li_160, li_200, li_225, li_255, li_400, li_799, li_800, li_999, li_2400, li_3239, li_3240, li_1048575, li_1431655765, li_858993459, li_252645135, eqb_j, ltb_j, leb_j, inb_j, ix_j, ix_n, nz_b, nz_0, nz_1, eqb_b, bnot, vI_ne, vI_eq, gIL, gLI, gIR, gRI, gLR, gRL, Int.reduceLT, Int.reduceLE, Int.reduceEq, Int.reduceAdd, Int.reduceSub, Int.reduceMul, Int.reduceNeg, Int.reduceToNat, Nat.reduceEqDiff, reduceIte, if_neg, if_pos, gI_ne, g]
    · obtain ⟨q1, q2, q3, q4, q5, q6⟩ := e2 v hv
      simp (disch := omega) only [fX13_does_0, fX13_does_111, qbI_s, qbL_s, qbV_s, qbR_s, qbR_n, qbN_s, qbN_n, qbIX_s, qbIX_n, qbVX_s, qbVX_n, cond_true, cond_false, cond_dec, jadd, jsub, jmul, jneg, li_0, li_1, li_2, li_3, li_4, li_5, li_6, li_7, li_8, li_9, li_10, li_14, li_15, li_16, li_19, li_20, li_24, li_30, li_31, li_32, li_39, li_40, li_48, li_57, li_59, li_60, li_63, li_65, li_80, li_81, li_90, li_97, li_99, li_100, li_122, li_126, li_127, li_150, li_160, li_200, li_225, li_255, li_400, li_799, li_800, li_999, li_2400, li_3239, li_3240, li_1048575, li_1431655765, li_858993459, li_252645135, eqb_j, ltb_j, leb_j, inb_j, ix_j, ix_n, nz_b, nz_0, nz_1, eqb_b, bnot, vI_ne, vI_eq, gIL, gLI, gIR, gRI, gLR, gRL, Int.reduceLT, Int.reduceLE, Int.reduceEq, Int.reduceAdd, Int.reduceSub, Int.reduceMul, Int.reduceNeg, Int.reduceToNat, Nat.reduceEqDiff, reduceIte, if_neg, if_pos, gI_ne, gIv 102, q1, g]
  · -- swap
    have k9 := (hD.2.2.2.2.2.2 a a1).2.2.2
    have a2 := ha.2.1
    obtain ⟨sa, hsa⟩ : ∃ sa : Nat, vI m0 125 a = sa := ⟨(vI m0 125 a).toNat, by omega⟩
    have sA := evSlo hA a a1
    rw [hsa] at sA
    obtain ⟨z, z1, z2⟩ := behindC hR hS h t ht u hu sa (by omega)
    have ref : ∀ v, MS (vI m0) s K v → fX13_does_0 (Zi L) (Zi a) (Zi u) v = fX13_does_94 (Zi u) (Zi z) v := fun v hv => by
      obtain ⟨q1, q2, q3, q4, q5, q6⟩ := e2 v hv
      obtain ⟨z', g1, g2, g3⟩ := behindM (v := v) (hA.2.2.2.2.2.2.2.1) hD hS hv t ht u hu a a1 hat sa (by omega) fX13_does_94
      rw [swQ_one hR z1 g1, ← g3]
      rw [hsa] at q6
      simp (disch := omega) only [fX13_does_0, qbI_s, qbL_s, qbV_s, qbR_s, qbR_n, qbN_s, qbN_n, qbIX_s, qbIX_n, qbVX_s, qbVX_n, cond_true, cond_false, cond_dec, jadd, jsub, jmul, jneg, li_0, li_1, li_2, li_3, li_4, li_5, li_6, li_7, li_8, li_9, li_10, li_14, li_15, li_16, li_19, li_20, li_24, li_30, li_31, li_32, li_39, li_40, li_48, li_57, li_59, li_60, li_63, li_65, li_80, li_81, li_90, li_97, li_99, li_100, li_122, li_126, li_127, li_150, li_160, li_200, li_225, li_255, li_400, li_799, li_800, li_999, li_2400, li_3239, li_3240, li_1048575, li_1431655765, li_858993459, li_252645135, eqb_j, ltb_j, leb_j, inb_j, ix_j, ix_n, nz_b, nz_0, nz_1, eqb_b, bnot, vI_ne, vI_eq, gIL, gLI, gIR, gRI, gLR, gRL, Int.reduceLT, Int.reduceLE, Int.reduceEq, Int.reduceAdd, Int.reduceSub, Int.reduceMul, Int.reduceNeg, Int.reduceToNat, Nat.reduceEqDiff, reduceIte, if_neg, if_pos, gI_ne, gIv 102, q1, g, gIv 124, q5, gIv 125, q6]
    have cls : ∀ w', fX1_meetOneBehind_12 FU (Zi u) (Zi t) (Zi ((sa : Int) + 1)) w = some ((), w') → fX1_act_0 (Zi (vI m0 102 L)) (Zi (vI m0 103 L)) (Zi a) (Zi u) w = some ((), w') := fun w' e => by
      simp (disch := omega) only [fX1_act_0, fX1_act_40, qbI_s, qbL_s, qbV_s, qbR_s, qbR_n, qbN_s, qbN_n, qbIX_s, qbIX_n, qbVX_s, qbVX_n, cond_true, cond_false, cond_dec, jadd, jsub, jmul, jneg, li_0, li_1, li_2, li_3, li_4, li_5, li_6, li_7, li_8, li_9, li_10, li_14, li_15, li_16, li_19, li_20, li_24, li_30, li_31, li_32, li_39, li_40, li_48, li_57, li_59, li_60, li_63, li_65, li_80, li_81, li_90, li_97, li_99, li_100, li_122, li_126, li_127, li_150, li_160, li_200, li_225, li_255, li_400, li_799, li_800, li_999, li_2400, li_3239, li_3240, li_1048575, li_1431655765, li_858993459, li_252645135, eqb_j, ltb_j, leb_j, inb_j, ix_j, ix_n, nz_b, nz_0, nz_1, eqb_b, bnot, vI_ne, vI_eq, gIL, gLI, gIR, gRI, gLR, gRL, Int.reduceLT, Int.reduceLE, Int.reduceEq, Int.reduceAdd, Int.reduceSub, Int.reduceMul, Int.reduceNeg, Int.reduceToNat, Nat.reduceEqDiff, reduceIte, if_neg, if_pos, gI_ne, g, fX1_meetOneBehind_d, fX1_meetOneBehind_0, tA, sA, e]
    rcases z1 with ⟨y1, -⟩ | ⟨o, y1, y2, y3, -⟩
    · rw [if_pos y1] at z2
      refine ⟨s, w, cls w z2, OutC.none hS h hu hl (fun _ => rfl), fun v hv => ⟨v, ?_, hv, Fr.rf v⟩⟩
      show fX13_does_0 (Zi L) (Zi a) (Zi u) v = _
      rw [ref v hv, y1]
      simp (disch := omega) only [fX13_does_94, fX13_does_111, qbI_s, qbL_s, qbV_s, qbR_s, qbR_n, qbN_s, qbN_n, qbIX_s, qbIX_n, qbVX_s, qbVX_n, cond_true, cond_false, cond_dec, jadd, jsub, jmul, jneg, li_0, li_1, li_2, li_3, li_4, li_5, li_6, li_7, li_8, li_9, li_10, li_14, li_15, li_16, li_19, li_20, li_24, li_30, li_31, li_32, li_39, li_40, li_48, li_57, li_59, li_60, li_63, li_65, li_80, li_81, li_90, li_97, li_99, li_100, li_122, li_126, li_127, li_150, li_160, li_200, li_225, li_255, li_400, li_799, li_800, li_999, li_2400, li_3239, li_3240, li_1048575, li_1431655765, li_858993459, li_252645135, eqb_j, ltb_j, leb_j, inb_j, ix_j, ix_n, nz_b, nz_0, nz_1, eqb_b, bnot, vI_ne, vI_eq, gIL, gLI, gIR, gRI, gLR, gRL, Int.reduceLT, Int.reduceLE, Int.reduceEq, Int.reduceAdd, Int.reduceSub, Int.reduceMul, Int.reduceNeg, Int.reduceToNat, Nat.reduceEqDiff, reduceIte, if_neg, if_pos, gI_ne, show (-1 : Int32) = Zi (-1) from rfl]
    · rw [if_neg (by omega), y1, Int.toNat_natCast] at z2
      obtain ⟨fO, frO⟩ := fullC hR hS h o y2.1
      obtain ⟨x, w', e, hO⟩ := OutC.start hR hK ht hS h hu hl o y2 y3 (vI m0 99 0 + s 139 o) (by omega)
      rw [e, qbV_s] at z2
      have o40 := y2.1
      refine ⟨_, w', cls w' z2, hO, fun v hv => ?_⟩
      obtain ⟨x2, v', e9, hM2, hF2⟩ := startM hD hS hv o y2.1 u (vI m0 99 0 + s 139 o) (by omega) (by omega)
      have e0 := hv.1 99 0 (by unfold dE; omega)
      have e139 := hv.2.1 139 o (by unfold dyn; omega)
      refine ⟨v', ?_, hM2, hF2.wide fun c k hc => hc⟩
      show fX13_does_0 (Zi L) (Zi a) (Zi u) v = _
      rw [ref v hv, y1]
      simp (disch := omega) only [fX13_does_94, fX13_does_111, qbI_s, qbL_s, qbV_s, qbR_s, qbR_n, qbN_s, qbN_n, qbIX_s, qbIX_n, qbVX_s, qbVX_n, cond_true, cond_false, cond_dec, jadd, jsub, jmul, jneg, li_0, li_1, li_2, li_3, li_4, li_5, li_6, li_7, li_8, li_9, li_10, li_14, li_15, li_16, li_19, li_20, li_24, li_30, li_31, li_32, li_39, li_40, li_48, li_57, li_59, li_60, li_63, li_65, li_80, li_81, li_90, li_97, li_99, li_100, li_122, li_126, li_127, li_150, li_160, li_200, li_225, li_255, li_400, li_799, li_800, li_999, li_2400, li_3239, li_3240, li_1048575, li_1431655765, li_858993459, li_252645135, eqb_j, ltb_j, leb_j, inb_j, ix_j, ix_n, nz_b, nz_0, nz_1, eqb_b, bnot, vI_ne, vI_eq, gIL, gLI, gIR, gRI, gLR, gRL, Int.reduceLT, Int.reduceLE, Int.reduceEq, Int.reduceAdd, Int.reduceSub, Int.reduceMul, Int.reduceNeg, Int.reduceToNat, Nat.reduceEqDiff, reduceIte, if_neg, if_pos, gI_ne, gIv 99, gIv 139, e0, e139, e9, show (-1 : Int32) = Zi (-1) from rfl]
  · have c4 := c3.2.2 (Or.inl g)
    have mA := evMin hA
    obtain ⟨s', w', e, hO, hv⟩ := begins (min (vI m0 103 L) (vI m0 99 0)) (by omega)
    refine ⟨s', w', ?_, hO, fun v hvv => ?_⟩
    · simp (disch := omega) only [fX1_act_0, fX1_act_40, qbI_s, qbL_s, qbV_s, qbR_s, qbR_n, qbN_s, qbN_n, qbIX_s, qbIX_n, qbVX_s, qbVX_n, cond_true, cond_false, cond_dec, jadd, jsub, jmul, jneg, li_0, li_1, li_2, li_3, li_4, li_5, li_6, li_7, li_8, li_9, li_10, li_14, li_15, li_16, li_19, li_20, li_24, li_30, li_31, li_32, li_39, li_40, li_48, li_57, li_59, li_60, li_63, li_65, li_80, li_81, li_90, li_97, li_99, li_100, li_122, li_126, li_127, li_150, li_160, li_200, li_225, li_255, li_400, li_799, li_800, li_999, li_2400, li_3239, li_3240, li_1048575, li_1431655765, li_858993459, li_252645135, eqb_j, ltb_j, leb_j, inb_j, ix_j, ix_n, nz_b, nz_0, nz_1, eqb_b, bnot, vI_ne, vI_eq, gIL, gLI, gIR, gRI, gLR, gRL, Int.reduceLT, Int.reduceLE, Int.reduceEq, Int.reduceAdd, Int.reduceSub, Int.reduceMul, Int.reduceNeg, Int.reduceToNat, Nat.reduceEqDiff, reduceIte, if_neg, if_pos, gI_ne, g, mA, min_s, e]
    · obtain ⟨v', k1, k2, k3, k4⟩ := hv v hvv
      obtain ⟨q1, q2, q3, q4, q5, q6⟩ := e2 v hvv
      have hM := hhM v hvv
      refine ⟨v', ?_, k1, k2⟩
      cases c : hrB (vI m0) s a u
      · rw [c] at hM
        rw [k3 c]
        simp (disch := omega) only [fX13_does_0, fX13_does_111, qbI_s, qbL_s, qbV_s, qbR_s, qbR_n, qbN_s, qbN_n, qbIX_s, qbIX_n, qbVX_s, qbVX_n, cond_true, cond_false, cond_dec, jadd, jsub, jmul, jneg, li_0, li_1, li_2, li_3, li_4, li_5, li_6, li_7, li_8, li_9, li_10, li_14, li_15, li_16, li_19, li_20, li_24, li_30, li_31, li_32, li_39, li_40, li_48, li_57, li_59, li_60, li_63, li_65, li_80, li_81, li_90, li_97, li_99, li_100, li_122, li_126, li_127, li_150, li_160, li_200, li_225, li_255, li_400, li_799, li_800, li_999, li_2400, li_3239, li_3240, li_1048575, li_1431655765, li_858993459, li_252645135, eqb_j, ltb_j, leb_j, inb_j, ix_j, ix_n, nz_b, nz_0, nz_1, eqb_b, bnot, vI_ne, vI_eq, gIL, gLI, gIR, gRI, gLR, gRL, Int.reduceLT, Int.reduceLE, Int.reduceEq, Int.reduceAdd, Int.reduceSub, Int.reduceMul, Int.reduceNeg, Int.reduceToNat, Nat.reduceEqDiff, reduceIte, if_neg, if_pos, gI_ne, gIv 102, q1, g, hM, show bI false = 0 from rfl]
      · rw [c] at hM
        have k9 := k4 c
        rw [Int.min_comm] at k9
        simp (disch := omega) only [fX13_does_0, fX13_does_111, qbI_s, qbL_s, qbV_s, qbR_s, qbR_n, qbN_s, qbN_n, qbIX_s, qbIX_n, qbVX_s, qbVX_n, cond_true, cond_false, cond_dec, jadd, jsub, jmul, jneg, li_0, li_1, li_2, li_3, li_4, li_5, li_6, li_7, li_8, li_9, li_10, li_14, li_15, li_16, li_19, li_20, li_24, li_30, li_31, li_32, li_39, li_40, li_48, li_57, li_59, li_60, li_63, li_65, li_80, li_81, li_90, li_97, li_99, li_100, li_122, li_126, li_127, li_150, li_160, li_200, li_225, li_255, li_400, li_799, li_800, li_999, li_2400, li_3239, li_3240, li_1048575, li_1431655765, li_858993459, li_252645135, eqb_j, ltb_j, leb_j, inb_j, ix_j, ix_n, nz_b, nz_0, nz_1, eqb_b, bnot, vI_ne, vI_eq, gIL, gLI, gIR, gRI, gLR, gRL, Int.reduceLT, Int.reduceLE, Int.reduceEq, Int.reduceAdd, Int.reduceSub, Int.reduceMul, Int.reduceNeg, Int.reduceToNat, Nat.reduceEqDiff, reduceIte, if_neg, if_pos, gI_ne, gIv 102, q1, g, hM, gIv 99, gIv 103, q3, q2, min_s, k9, show bI true = 1 from rfl]
  · have c4 := c3.2.2 (Or.inr g)
    refine ⟨_, _, ?_, OutC.pause ht hS h hu hl (vI m0 103 L) (by omega), fun v hv => ⟨sI v 144 t (Zi (u + vI m0 103 L)), ?_, hv.set 144 t (by omega) _ (by omega), (Fr.rf v).wI 144 t _ (by unfold DynF; omega)⟩⟩
    · simp (disch := omega) only [fX1_act_0, fX1_act_40, qbI_s, qbL_s, qbV_s, qbR_s, qbR_n, qbN_s, qbN_n, qbIX_s, qbIX_n, qbVX_s, qbVX_n, cond_true, cond_false, cond_dec, jadd, jsub, jmul, jneg, li_0, li_1, li_2, li_3, li_4, li_5, li_6, li_7, li_8, li_9, li_10, li_14, li_15, li_16, li_19, li_20, li_24, li_30, li_31, li_32, li_39, li_40, li_48, li_57, li_59, li_60, li_63, li_65, li_80, li_81, li_90, li_97, li_99, li_100, li_122, li_126, li_127, li_150, li_160, li_200, li_225, li_255, li_400, li_799, li_800, li_999, li_2400, li_3239, li_3240, li_1048575, li_1431655765, li_858993459, li_252645135, eqb_j, ltb_j, leb_j, inb_j, ix_j, ix_n, nz_b, nz_0, nz_1, eqb_b, bnot, vI_ne, vI_eq, gIL, gLI, gIR, gRI, gLR, gRL, Int.reduceLT, Int.reduceLE, Int.reduceEq, Int.reduceAdd, Int.reduceSub, Int.reduceMul, Int.reduceNeg, Int.reduceToNat, Nat.reduceEqDiff, reduceIte, if_neg, if_pos, gI_ne, g, tA]
    · obtain ⟨q1, q2, q3, q4, q5, q6⟩ := e2 v hv
      simp (disch := omega) only [fX13_does_0, fX13_does_111, qbI_s, qbL_s, qbV_s, qbR_s, qbR_n, qbN_s, qbN_n, qbIX_s, qbIX_n, qbVX_s, qbVX_n, cond_true, cond_false, cond_dec, jadd, jsub, jmul, jneg, li_0, li_1, li_2, li_3, li_4, li_5, li_6, li_7, li_8, li_9, li_10, li_14, li_15, li_16, li_19, li_20, li_24, li_30, li_31, li_32, li_39, li_40, li_48, li_57, li_59, li_60, li_63, li_65, li_80, li_81, li_90, li_97, li_99, li_100, li_122, li_126, li_127, li_150, li_160, li_200, li_225, li_255, li_400, li_799, li_800, li_999, li_2400, li_3239, li_3240, li_1048575, li_1431655765, li_858993459, li_252645135, eqb_j, ltb_j, leb_j, inb_j, ix_j, ix_n, nz_b, nz_0, nz_1, eqb_b, bnot, vI_ne, vI_eq, gIL, gLI, gIR, gRI, gLR, gRL, Int.reduceLT, Int.reduceLE, Int.reduceEq, Int.reduceAdd, Int.reduceSub, Int.reduceMul, Int.reduceNeg, Int.reduceToNat, Nat.reduceEqDiff, reduceIte, if_neg, if_pos, gI_ne, gIv 102, q1, g, gIv 124, q5, gIv 103, q2]
