/-! the next meeting; how far off -/
def nxQ (d : Nat → Nat → Int) (S : Nat → Int) (f : Nat) (u : Int) (n : Nat) (z : Int) : Prop := (z = -1 ∧ ∀ o, o < n → d 123 o = f → S o ≤ u) ∨ ∃ a : Nat, z = a ∧ a < n ∧ d 123 a = f ∧ u < S a ∧ (∀ o, o < n → d 123 o = f → u < S o → S a ≤ S o) ∧ ∀ o, o < a → d 123 o = f → u < S o → S a < S o
theorem nxQ_one {d : Nat → Nat → Int} {S : Nat → Int} {f : Nat} {u : Int} {n : Nat} {z z' : Int} (h : nxQ d S f u n z) (h' : nxQ d S f u n z') : z = z' := by
  rcases h with ⟨h1, h2⟩ | ⟨a, h1, h2, h3, h4, h5, h6⟩
  · rcases h' with ⟨g1, g2⟩ | ⟨c, g1, g2, g3, g4, g5, g6⟩
    · omega
    · have := h2 c g2 g3; omega
  · rcases h' with ⟨g1, g2⟩ | ⟨c, g1, g2, g3, g4, g5, g6⟩
    · have := g2 a h2 h3; omega
    · have q1 := h5 c g2 g3 g4
      have q2 := g5 a h2 h3 h4
      rcases Nat.lt_trichotomy a c with e | e | e
      · have := g6 a e h3 h4; omega
      · omega
      · have := h6 c e g3 g4; omega
theorem nxQ_skip {d : Nat → Nat → Int} {S : Nat → Int} {f : Nat} {u : Int} {n : Nat} {z : Int} (h : nxQ d S f u n z) (hn : ¬ (d 123 n = f ∧ u < S n ∧ (z = -1 ∨ S n < S z.toNat))) : nxQ d S f u (n + 1) z := by
  rcases h with ⟨h1, h2⟩ | ⟨a, h1, h2, h3, h4, h5, h6⟩
  · refine Or.inl ⟨h1, fun o ho q => ?_⟩
    by_cases e : o = n
    · rw [e] at q ⊢
      exact Int.not_lt.mp fun z => hn ⟨q, z, Or.inl h1⟩
    · exact h2 o (by omega) q
  · refine Or.inr ⟨a, h1, by omega, h3, h4, fun o ho q1 q2 => ?_, h6⟩
    by_cases e : o = n
    · rw [e] at q1 q2 ⊢
      refine Int.not_lt.mp fun z9 => hn ⟨q1, q2, Or.inr ?_⟩
      rw [h1, Int.toNat_natCast]
      exact z9
    · exact h5 o (by omega) q1 q2
theorem nxQ_take {d : Nat → Nat → Int} {S : Nat → Int} {f : Nat} {u : Int} {n : Nat} {z : Int} (h : nxQ d S f u n z) (h1 : d 123 n = f) (h2 : u < S n) (h3 : z = -1 ∨ S n < S z.toNat) : nxQ d S f u (n + 1) n := by
  have all : ∀ o, o < n → d 123 o = f → u < S o → S n < S o := fun o ho q1 q2 => by
    rcases h with ⟨g1, g2⟩ | ⟨a, g1, g2, g3, g4, g5, g6⟩
    · have := g2 o ho q1; omega
    · have := g5 o ho q1 q2
      rw [g1, Int.toNat_natCast] at h3
      omega
  refine Or.inr ⟨n, rfl, by omega, h1, h2, fun o ho q1 q2 => ?_, fun o ho q1 q2 => all o ho q1 q2⟩
  by_cases e : o = n
  · rw [e]; exact Int.le_refl _
  · exact Int.le_of_lt (all o (by omega) q1 q2)
theorem nextC {w : qM} (hR : R0 w) (K : Nat) (hK : K ≤ 80) (hS : ∀ a : Nat, (a : Int) < vI w 98 32 → -1 ≤ rwS w K a ∧ rwS w K a ≤ 799) (f : Nat) (hf : f < 15) (u : Int) (hu : 0 ≤ u ∧ u ≤ 799) : ∃ z, fX1_nextOf (Zi f) (Zi u) (Zi K) w = some (Zi z, w) ∧ nxQ (vI w) (rwS w K) f u (vI w 98 32).toNat z := by
  have hA := CAll.of hR
  have hD := DOk.of hA
  have n1 := hD.2.2.2.2.1
  have n2 := hD.2.2.2.2.2.1
  have e11 := hA.2.2.2.2.2.1.1
  have loop : ∀ (r i g : Nat) (z : Int), i + r = (vI w 98 32).toNat → r < g → nxQ (vI w) (rwS w K) f u i z → ∃ z', fX1_nextOf_6 g (Zi f) (Zi u) (Zi K) (Zi z) (Zi (if z = -1 then 800 else rwS w K z.toNat)) (Zi i) w = some (Zi z', w) ∧ nxQ (vI w) (rwS w K) f u (vI w 98 32).toNat z' := by
    intro r
    induction r with
    | zero =>
      intro i g z hi hg hz
      obtain ⟨g, rfl⟩ : ∃ g', g = g' + 1 := ⟨g - 1, by omega⟩
      refine ⟨z, ?_, by rw [← show i = (vI w 98 32).toNat by omega]; exact hz⟩
      simp (disch := omega) only [fX1_nextOf_6, fX4_asks_d, fX4_asks_0, qbI_s, qbL_s, qbV_s, qbR_s, qbR_n, qbN_s, qbN_n, qbIX_s, qbIX_n, qbVX_s, qbVX_n, cond_true, cond_false, cond_dec, jadd, jsub, jmul, jneg, li_0, li_1, li_2, li_3, li_4, li_5, li_6, li_7, li_8, li_9, li_10, li_14, li_15, li_16, li_19, li_20, li_24, li_30, li_31, li_32, li_39, li_40, li_48, li_57, li_59, li_60, li_63, li_65, li_80, li_81, li_90, li_97, li_99, li_100, li_122, li_126, li_127, li_150, li_160, li_200, li_225, li_255, li_400, li_799, li_800, li_999, li_2400, li_3239, li_3240, li_1048575, li_1431655765, li_858993459, li_252645135, eqb_j, ltb_j, leb_j, inb_j, ix_j, ix_n, nz_b, nz_0, nz_1, eqb_b, bnot, vI_ne, vI_eq, gIL, gLI, gIR, gRI, gLR, gRL, Int.reduceLT, Int.reduceLE, Int.reduceEq, Int.reduceAdd, Int.reduceSub, Int.reduceMul, Int.reduceNeg, Int.reduceToNat, Nat.reduceEqDiff, reduceIte, if_neg, if_pos, gI_ne, gIv 58, e11]
    | succ r ih =>
      intro i g z hi hg hz
      obtain ⟨g, rfl⟩ : ∃ g', g = g' + 1 := ⟨g - 1, by omega⟩
      have hi' : (i : Int) < vI w 98 32 := by omega
      have sO := startOf_s w K i hK (by omega)
      have fA := evFam hA i hi'
      have k1 := (hD.2.2.2.2.2.2 i hi').1
      have sr := hS i hi'
      have zr : -1 ≤ z ∧ z < 40 := by
        rcases hz with ⟨h1, -⟩ | ⟨a, h1, h2, -⟩ <;> omega
      obtain ⟨so, hso⟩ : ∃ so : Int, so = (if z = -1 then 800 else rwS w K z.toNat) := ⟨_, rfl⟩
      have sor : -1 ≤ so ∧ so ≤ 800 := by
        rw [hso]
        split
        · omega
        · have := hS z.toNat (by rcases hz with ⟨h1, -⟩ | ⟨a, h1, h2, -⟩ <;> omega)
          omega
      rw [← hso]
      by_cases c : vI w 123 i = f ∧ u < rwS w K i ∧ rwS w K i < so
      · obtain ⟨z', r1, r2⟩ := ih (i + 1) g i (by omega) (by omega) (nxQ_take hz c.1 c.2.1 (by
          have := c.2.2
          rw [hso] at this
          by_cases e : z = -1
          · exact Or.inl e
          · rw [if_neg e] at this; exact Or.inr this))
        rw [if_neg (by omega), Int.toNat_natCast] at r1
        refine ⟨z', ?_, r2⟩
        simp (disch := omega) only [fX1_nextOf_6, fX1_nextOf_32, fX4_asks_d, fX4_asks_0, qbI_s, qbL_s, qbV_s, qbR_s, qbR_n, qbN_s, qbN_n, qbIX_s, qbIX_n, qbVX_s, qbVX_n, cond_true, cond_false, cond_dec, jadd, jsub, jmul, jneg, li_0, li_1, li_2, li_3, li_4, li_5, li_6, li_7, li_8, li_9, li_10, li_14, li_15, li_16, li_19, li_20, li_24, li_30, li_31, li_32, li_39, li_40, li_48, li_57, li_59, li_60, li_63, li_65, li_80, li_81, li_90, li_97, li_99, li_100, li_122, li_126, li_127, li_150, li_160, li_200, li_225, li_255, li_400, li_799, li_800, li_999, li_2400, li_3239, li_3240, li_1048575, li_1431655765, li_858993459, li_252645135, eqb_j, ltb_j, leb_j, inb_j, ix_j, ix_n, nz_b, nz_0, nz_1, eqb_b, bnot, vI_ne, vI_eq, gIL, gLI, gIR, gRI, gLR, gRL, Int.reduceLT, Int.reduceLE, Int.reduceEq, Int.reduceAdd, Int.reduceSub, Int.reduceMul, Int.reduceNeg, Int.reduceToNat, Nat.reduceEqDiff, reduceIte, if_neg, if_pos, gI_ne, gIv 58, e11, sO, fA, c.1]
        exact r1
      · obtain ⟨z', r1, r2⟩ := ih (i + 1) g z (by omega) (by omega) (nxQ_skip hz (fun q => c ⟨q.1, q.2.1, by
          rw [hso]
          split
          · omega
          · rcases q.2.2 with q3 | q3
            · rename_i e; exact absurd q3 e
            · exact q3⟩))
        rw [← hso] at r1
        refine ⟨z', ?_, r2⟩
        by_cases c1 : vI w 123 i = f
        · by_cases c2 : u < rwS w K i
          · have c3 : ¬ rwS w K i < so := fun q => c ⟨c1, c2, q⟩
            simp (disch := omega) only [fX1_nextOf_6, fX1_nextOf_32, fX4_asks_d, fX4_asks_0, qbI_s, qbL_s, qbV_s, qbR_s, qbR_n, qbN_s, qbN_n, qbIX_s, qbIX_n, qbVX_s, qbVX_n, cond_true, cond_false, cond_dec, jadd, jsub, jmul, jneg, li_0, li_1, li_2, li_3, li_4, li_5, li_6, li_7, li_8, li_9, li_10, li_14, li_15, li_16, li_19, li_20, li_24, li_30, li_31, li_32, li_39, li_40, li_48, li_57, li_59, li_60, li_63, li_65, li_80, li_81, li_90, li_97, li_99, li_100, li_122, li_126, li_127, li_150, li_160, li_200, li_225, li_255, li_400, li_799, li_800, li_999, li_2400, li_3239, li_3240, li_1048575, li_1431655765, li_858993459, li_252645135, eqb_j, ltb_j, leb_j, inb_j, ix_j, ix_n, nz_b, nz_0, nz_1, eqb_b, bnot, vI_ne, vI_eq, gIL, gLI, gIR, gRI, gLR, gRL, Int.reduceLT, Int.reduceLE, Int.reduceEq, Int.reduceAdd, Int.reduceSub, Int.reduceMul, Int.reduceNeg, Int.reduceToNat, Nat.reduceEqDiff, reduceIte, if_neg, if_pos, gI_ne, gIv 58, e11, sO, fA, c1]
            exact r1
          · simp (disch := omega) only [fX1_nextOf_6, fX1_nextOf_32, fX4_asks_d, fX4_asks_0, qbI_s, qbL_s, qbV_s, qbR_s, qbR_n, qbN_s, qbN_n, qbIX_s, qbIX_n, qbVX_s, qbVX_n, cond_true, cond_false, cond_dec, jadd, jsub, jmul, jneg, li_0, li_1, li_2, li_3, li_4, li_5, li_6, li_7, li_8, li_9, li_10, li_14, li_15, li_16, li_19, li_20, li_24, li_30, li_31, li_32, li_39, li_40, li_48, li_57, li_59, li_60, li_63, li_65, li_80, li_81, li_90, li_97, li_99, li_100, li_122, li_126, li_127, li_150, li_160, li_200, li_225, li_255, li_400, li_799, li_800, li_999, li_2400, li_3239, li_3240, li_1048575, li_1431655765, li_858993459, li_252645135, eqb_j, ltb_j, leb_j, inb_j, ix_j, ix_n, nz_b, nz_0, nz_1, eqb_b, bnot, vI_ne, vI_eq, gIL, gLI, gIR, gRI, gLR, gRL, Int.reduceLT, Int.reduceLE, Int.reduceEq, Int.reduceAdd, Int.reduceSub, Int.reduceMul, Int.reduceNeg, Int.reduceToNat, Nat.reduceEqDiff, reduceIte, if_neg, if_pos, gI_ne, gIv 58, e11, sO, fA, c1]
            exact r1
        · simp (disch := omega) only [fX1_nextOf_6, fX1_nextOf_32, fX4_asks_d, fX4_asks_0, qbI_s, qbL_s, qbV_s, qbR_s, qbR_n, qbN_s, qbN_n, qbIX_s, qbIX_n, qbVX_s, qbVX_n, cond_true, cond_false, cond_dec, jadd, jsub, jmul, jneg, li_0, li_1, li_2, li_3, li_4, li_5, li_6, li_7, li_8, li_9, li_10, li_14, li_15, li_16, li_19, li_20, li_24, li_30, li_31, li_32, li_39, li_40, li_48, li_57, li_59, li_60, li_63, li_65, li_80, li_81, li_90, li_97, li_99, li_100, li_122, li_126, li_127, li_150, li_160, li_200, li_225, li_255, li_400, li_799, li_800, li_999, li_2400, li_3239, li_3240, li_1048575, li_1431655765, li_858993459, li_252645135, eqb_j, ltb_j, leb_j, inb_j, ix_j, ix_n, nz_b, nz_0, nz_1, eqb_b, bnot, vI_ne, vI_eq, gIL, gLI, gIR, gRI, gLR, gRL, Int.reduceLT, Int.reduceLE, Int.reduceEq, Int.reduceAdd, Int.reduceSub, Int.reduceMul, Int.reduceNeg, Int.reduceToNat, Nat.reduceEqDiff, reduceIte, if_neg, if_pos, gI_ne, gIv 58, e11, sO, fA]
          exact r1
  obtain ⟨z, r1, r2⟩ := loop (vI w 98 32).toNat 0 FU (-1) (by omega) (by rw [FU_d]; omega) (Or.inl ⟨rfl, fun o ho => by omega⟩)
  rw [if_pos rfl] at r1
  refine ⟨z, ?_, r2⟩
  rw [fX1_nextOf_d]
  simp only [fX1_nextOf_0]
  exact r1
theorem nextM {v : qM} {d : Nat → Nat → Int} (hD : DOk d) (S : Nat → Int) (h98 : vI v 98 32 = d 98 32) (hv : ∀ a : Nat, (a : Int) < d 98 32 → vI v 123 a = d 123 a ∧ vI v 125 a = d 125 a ∧ vI v 141 a = S a ∧ (-1 ≤ S a ∧ S a ≤ 799) ∧ (d 125 a = -1 → S a = -1)) (f : Nat) (hf : f < 15) (u : Int) (hu : 0 ≤ u ∧ u ≤ 799) : ∃ z, fX13_nextOf (Zi f) (Zi u) v = some (Zi z, v) ∧ nxQ d S f u (d 98 32).toNat z := by
  have n1 := hD.2.2.2.2.1
  have n2 := hD.2.2.2.2.2.1
  have loop : ∀ (r i g : Nat) (z : Int), i + r = (d 98 32).toNat → r < g → nxQ d S f u i z → ∃ z', fX13_nextOf_4 g (Zi f) (Zi u) (Zi z) (Zi i) v = some (Zi z', v) ∧ nxQ d S f u (d 98 32).toNat z' := by
    intro r
    induction r with
    | zero =>
      intro i g z hi hg hz
      obtain ⟨g, rfl⟩ : ∃ g', g = g' + 1 := ⟨g - 1, by omega⟩
      refine ⟨z, ?_, by rw [← show i = (d 98 32).toNat by omega]; exact hz⟩
      simp (disch := omega) only [fX13_nextOf_4, qbI_s, qbL_s, qbV_s, qbR_s, qbR_n, qbN_s, qbN_n, qbIX_s, qbIX_n, qbVX_s, qbVX_n, cond_true, cond_false, cond_dec, jadd, jsub, jmul, jneg, li_0, li_1, li_2, li_3, li_4, li_5, li_6, li_7, li_8, li_9, li_10, li_14, li_15, li_16, li_19, li_20, li_24, li_30, li_31, li_32, li_39, li_40, li_48, li_57, li_59, li_60, li_63, li_65, li_80, li_81, li_90, li_97, li_99, li_100, li_122, li_126, li_127, li_150, li_160, li_200, li_225, li_255, li_400, li_799, li_800, li_999, li_2400, li_3239, li_3240, li_1048575, li_1431655765, li_858993459, li_252645135, eqb_j, ltb_j, leb_j, inb_j, ix_j, ix_n, nz_b, nz_0, nz_1, eqb_b, bnot, vI_ne, vI_eq, gIL, gLI, gIR, gRI, gLR, gRL, Int.reduceLT, Int.reduceLE, Int.reduceEq, Int.reduceAdd, Int.reduceSub, Int.reduceMul, Int.reduceNeg, Int.reduceToNat, Nat.reduceEqDiff, reduceIte, if_neg, if_pos, gI_ne, gIv 98, h98]
    | succ r ih =>
      intro i g z hi hg hz
      obtain ⟨g, rfl⟩ : ∃ g', g = g' + 1 := ⟨g - 1, by omega⟩
      have hi' : (i : Int) < d 98 32 := by omega
      obtain ⟨k1, -, -, k4⟩ := hD.2.2.2.2.2.2 i hi'
      obtain ⟨e1, e2, e3, sr, s5⟩ := hv i hi'
      have skip : ¬ (d 123 i = f ∧ u < S i ∧ (z = -1 ∨ S i < S z.toNat)) → ∃ z', fX13_nextOf_4 g (Zi f) (Zi u) (Zi z) (Zi ((i : Int) + 1)) v = some (Zi z', v) ∧ nxQ d S f u (d 98 32).toNat z' := fun hn => ih (i + 1) g z (by omega) (by omega) (nxQ_skip hz hn)
      by_cases c1 : d 123 i = f
      · by_cases c0 : d 125 i = -1
        · obtain ⟨z', r1, r2⟩ := skip (fun q => by have := s5 c0; omega)
          refine ⟨z', ?_, r2⟩
          simp (disch := omega) only [fX13_nextOf_4, fX13_nextOf_40, qbI_s, qbL_s, qbV_s, qbR_s, qbR_n, qbN_s, qbN_n, qbIX_s, qbIX_n, qbVX_s, qbVX_n, cond_true, cond_false, cond_dec, jadd, jsub, jmul, jneg, li_0, li_1, li_2, li_3, li_4, li_5, li_6, li_7, li_8, li_9, li_10, li_14, li_15, li_16, li_19, li_20, li_24, li_30, li_31, li_32, li_39, li_40, li_48, li_57, li_59, li_60, li_63, li_65, li_80, li_81, li_90, li_97, li_99, li_100, li_122, li_126, li_127, li_150, li_160, li_200, li_225, li_255, li_400, li_799, li_800, li_999, li_2400, li_3239, li_3240, li_1048575, li_1431655765, li_858993459, li_252645135, eqb_j, ltb_j, leb_j, inb_j, ix_j, ix_n, nz_b, nz_0, nz_1, eqb_b, bnot, vI_ne, vI_eq, gIL, gLI, gIR, gRI, gLR, gRL, Int.reduceLT, Int.reduceLE, Int.reduceEq, Int.reduceAdd, Int.reduceSub, Int.reduceMul, Int.reduceNeg, Int.reduceToNat, Nat.reduceEqDiff, reduceIte, if_neg, if_pos, gI_ne, gIv 98, h98, gIv 123, e1, c1, gIv 125, e2, show (-1 : Int32) = Zi (-1) from rfl]
          exact r1
        · by_cases c2 : u < S i
          · by_cases c3 : z = -1
            · obtain ⟨z', r1, r2⟩ := ih (i + 1) g i (by omega) (by omega) (nxQ_take hz c1 c2 (Or.inl c3))
              refine ⟨z', ?_, r2⟩
              simp (disch := omega) only [fX13_nextOf_4, fX13_nextOf_40, fX13_nextOf_38, qbI_s, qbL_s, qbV_s, qbR_s, qbR_n, qbN_s, qbN_n, qbIX_s, qbIX_n, qbVX_s, qbVX_n, cond_true, cond_false, cond_dec, jadd, jsub, jmul, jneg, li_0, li_1, li_2, li_3, li_4, li_5, li_6, li_7, li_8, li_9, li_10, li_14, li_15, li_16, li_19, li_20, li_24, li_30, li_31, li_32, li_39, li_40, li_48, li_57, li_59, li_60, li_63, li_65, li_80, li_81, li_90, li_97, li_99, li_100, li_122, li_126, li_127, li_150, li_160, li_200, li_225, li_255, li_400, li_799, li_800, li_999, li_2400, li_3239, li_3240, li_1048575, li_1431655765, li_858993459, li_252645135, eqb_j, ltb_j, leb_j, inb_j, ix_j, ix_n, nz_b, nz_0, nz_1, eqb_b, bnot, vI_ne, vI_eq, gIL, gLI, gIR, gRI, gLR, gRL, Int.reduceLT, Int.reduceLE, Int.reduceEq, Int.reduceAdd, Int.reduceSub, Int.reduceMul, Int.reduceNeg, Int.reduceToNat, Nat.reduceEqDiff, reduceIte, if_neg, if_pos, gI_ne, gIv 98, h98, gIv 123, e1, c1, gIv 125, e2, gIv 141, e3, c3, show (-1 : Int32) = Zi (-1) from rfl]
              exact r1
            · obtain ⟨b, hb, hbi⟩ : ∃ b : Nat, z = b ∧ b < i := by
                rcases hz with ⟨h1, -⟩ | ⟨a, h1, h2, -⟩
                · exact absurd h1 c3
                · exact ⟨a, h1, h2⟩
              have b3 := (hv b (by omega)).2.2.1
              have br := (hv b (by omega)).2.2.2.1
              have zt : z.toNat = b := by omega
              by_cases c4 : S i < S b
              · obtain ⟨z', r1, r2⟩ := ih (i + 1) g i (by omega) (by omega) (nxQ_take hz c1 c2 (Or.inr (by rw [zt]; exact c4)))
                refine ⟨z', ?_, r2⟩
                rw [hb]
                simp (disch := omega) only [fX13_nextOf_4, fX13_nextOf_40, fX13_nextOf_38, qbI_s, qbL_s, qbV_s, qbR_s, qbR_n, qbN_s, qbN_n, qbIX_s, qbIX_n, qbVX_s, qbVX_n, cond_true, cond_false, cond_dec, jadd, jsub, jmul, jneg, li_0, li_1, li_2, li_3, li_4, li_5, li_6, li_7, li_8, li_9, li_10, li_14, li_15, li_16, li_19, li_20, li_24, li_30, li_31, li_32, li_39, li_40, li_48, li_57, li_59, li_60, li_63, li_65, li_80, li_81, li_90, li_97, li_99, li_100, li_122, li_126, li_127, li_150, li_160, li_200, li_225, li_255, li_400, li_799, li_800, li_999, li_2400, li_3239, li_3240, li_1048575, li_1431655765, li_858993459, li_252645135, eqb_j, ltb_j, leb_j, inb_j, ix_j, ix_n, nz_b, nz_0, nz_1, eqb_b, bnot, vI_ne, vI_eq, gIL, gLI, gIR, gRI, gLR, gRL, Int.reduceLT, Int.reduceLE, Int.reduceEq, Int.reduceAdd, Int.reduceSub, Int.reduceMul, Int.reduceNeg, Int.reduceToNat, Nat.reduceEqDiff, reduceIte, if_neg, if_pos, gI_ne, gIv 98, h98, gIv 123, e1, c1, gIv 125, e2, gIv 141, e3, b3, show (-1 : Int32) = Zi (-1) from rfl]
                exact r1
              · obtain ⟨z', r1, r2⟩ := skip (fun q => by rw [zt] at q; omega)
                refine ⟨z', ?_, r2⟩
                rw [hb] at r1 ⊢
                simp (disch := omega) only [fX13_nextOf_4, fX13_nextOf_40, fX13_nextOf_38, qbI_s, qbL_s, qbV_s, qbR_s, qbR_n, qbN_s, qbN_n, qbIX_s, qbIX_n, qbVX_s, qbVX_n, cond_true, cond_false, cond_dec, jadd, jsub, jmul, jneg, li_0, li_1, li_2, li_3, li_4, li_5, li_6, li_7, li_8, li_9, li_10, li_14, li_15, li_16, li_19, li_20, li_24, li_30, li_31, li_32, li_39, li_40, li_48, li_57, li_59, li_60, li_63, li_65, li_80, li_81, li_90, li_97, li_99, li_100, li_122, li_126, li_127, li_150, li_160, li_200, li_225, li_255, li_400, li_799, li_800, li_999, li_2400, li_3239, li_3240, li_1048575, li_1431655765, li_858993459, li_252645135, eqb_j, ltb_j, leb_j, inb_j, ix_j, ix_n, nz_b, nz_0, nz_1, eqb_b, bnot, vI_ne, vI_eq, gIL, gLI, gIR, gRI, gLR, gRL, Int.reduceLT, Int.reduceLE, Int.reduceEq, Int.reduceAdd, Int.reduceSub, Int.reduceMul, Int.reduceNeg, Int.reduceToNat, Nat.reduceEqDiff, reduceIte, if_neg, if_pos, gI_ne, gIv 98, h98, gIv 123, e1, c1, gIv 125, e2, gIv 141, e3, b3, show (-1 : Int32) = Zi (-1) from rfl]
                exact r1
          · obtain ⟨z', r1, r2⟩ := skip (fun q => c2 q.2.1)
            refine ⟨z', ?_, r2⟩
            simp (disch := omega) only [fX13_nextOf_4, fX13_nextOf_40, qbI_s, qbL_s, qbV_s, qbR_s, qbR_n, qbN_s, qbN_n, qbIX_s, qbIX_n, qbVX_s, qbVX_n, cond_true, cond_false, cond_dec, jadd, jsub, jmul, jneg, li_0, li_1, li_2, li_3, li_4, li_5, li_6, li_7, li_8, li_9, li_10, li_14, li_15, li_16, li_19, li_20, li_24, li_30, li_31, li_32, li_39, li_40, li_48, li_57, li_59, li_60, li_63, li_65, li_80, li_81, li_90, li_97, li_99, li_100, li_122, li_126, li_127, li_150, li_160, li_200, li_225, li_255, li_400, li_799, li_800, li_999, li_2400, li_3239, li_3240, li_1048575, li_1431655765, li_858993459, li_252645135, eqb_j, ltb_j, leb_j, inb_j, ix_j, ix_n, nz_b, nz_0, nz_1, eqb_b, bnot, vI_ne, vI_eq, gIL, gLI, gIR, gRI, gLR, gRL, Int.reduceLT, Int.reduceLE, Int.reduceEq, Int.reduceAdd, Int.reduceSub, Int.reduceMul, Int.reduceNeg, Int.reduceToNat, Nat.reduceEqDiff, reduceIte, if_neg, if_pos, gI_ne, gIv 98, h98, gIv 123, e1, c1, gIv 125, e2, gIv 141, e3, show (-1 : Int32) = Zi (-1) from rfl]
            exact r1
      · obtain ⟨z', r1, r2⟩ := skip (fun q => c1 q.1)
        refine ⟨z', ?_, r2⟩
        simp (disch := omega) only [fX13_nextOf_4, fX13_nextOf_40, qbI_s, qbL_s, qbV_s, qbR_s, qbR_n, qbN_s, qbN_n, qbIX_s, qbIX_n, qbVX_s, qbVX_n, cond_true, cond_false, cond_dec, jadd, jsub, jmul, jneg, li_0, li_1, li_2, li_3, li_4, li_5, li_6, li_7, li_8, li_9, li_10, li_14, li_15, li_16, li_19, li_20, li_24, li_30, li_31, li_32, li_39, li_40, li_48, li_57, li_59, li_60, li_63, li_65, li_80, li_81, li_90, li_97, li_99, li_100, li_122, li_126, li_127, li_150, li_160, li_200, li_225, li_255, li_400, li_799, li_800, li_999, li_2400, li_3239, li_3240, li_1048575, li_1431655765, li_858993459, li_252645135, eqb_j, ltb_j, leb_j, inb_j, ix_j, ix_n, nz_b, nz_0, nz_1, eqb_b, bnot, vI_ne, vI_eq, gIL, gLI, gIR, gRI, gLR, gRL, Int.reduceLT, Int.reduceLE, Int.reduceEq, Int.reduceAdd, Int.reduceSub, Int.reduceMul, Int.reduceNeg, Int.reduceToNat, Nat.reduceEqDiff, reduceIte, if_neg, if_pos, gI_ne, gIv 98, h98, gIv 123, e1]
        exact r1
  obtain ⟨z, r1, r2⟩ := loop (d 98 32).toNat 0 FU (-1) (by omega) (by rw [FU_d]; omega) (Or.inl ⟨rfl, fun o ho => by omega⟩)
  refine ⟨z, ?_, r2⟩
  rw [fX13_nextOf_d]
  simp only [fX13_nextOf_0]
  exact r1
theorem rowR {m : qM} (h : RAll m) (K : Nat) (hK : K ≤ 80) (hd : vI m 83 K ≠ 0) : ∀ a : Nat, (a : Int) < vI m 98 32 → (-1 ≤ rwS m K a ∧ rwS m K a ≤ 799) ∧ (-1 ≤ rwE m K a ∧ rwE m K a ≤ 900) ∧ (rwS m K a = -1 → rwE m K a = -1) ∧ (rwS m K a ≠ -1 → rwS m K a ≤ rwE m K a) ∧ (vI m 125 a = -1 → rwS m K a = -1) := (h.2 K (by omega) hd).2.1
/-- the next one, both machines, from a world whose row is ready -/
theorem nextB {m v v' : qM} (h : RAll m) (K : Nat) (hK : K ≤ 80) (hd : vI m 83 K ≠ 0) (f : Nat) (hf : f < 15) (u : Int) (hu : 0 ≤ u ∧ u ≤ 799) (q : ∀ c k, ¬ (139 ≤ c ∧ c ≤ 150 ∨ c = 98 ∧ k = 70) → gI v c k = gI m c k) (h141 : ∀ a : Nat, (a : Int) < vI m 98 32 → vI v 141 a = rwS m K a) : ∃ z, fX1_nextOf (Zi f) (Zi u) (Zi K) m = some (Zi z, m) ∧ fX13_nextOf (Zi f) (Zi u) v = some (Zi z, v) ∧ nxQ (vI m) (rwS m K) f u (vI m 98 32).toNat z := by
  have hD := DOk.of (CAll.of h.1)
  have rr := rowR h K hK hd
  obtain ⟨z1, a1, a2⟩ := nextC h.1 K hK (fun a ha => (rr a ha).1) f hf u hu
  obtain ⟨z2, b1, b2⟩ := nextM (v := v) hD (rwS m K) (vI_of (q 98 32 (by omega))) (fun a ha => ⟨vI_of (q 123 a (by omega)), vI_of (q 125 a (by omega)), h141 a ha, (rr a ha).1, (rr a ha).2.2.2.2⟩) f hf u hu
  have e := nxQ_one a2 b2
  subst e
  exact ⟨z1, a1, b1, a2⟩
theorem op_next (m : qM) (h : RAll m) (a u : Int) (ha0 : -2147483648 ≤ a ∧ a < 2147483648) (hu0 : -2147483648 ≤ u ∧ u < 2147483648) : QAll m (fX11_next (Zi a) (Zi u)) (fX13_next (Zi a) (Zi u)) := by
  have hR := h.1
  have hR' := hR
  obtain ⟨⟨hT, hRd, hRu, hFo, hHa⟩, ⟨hPt, hPf, hAp, hWk⟩, ⟨hAs, hPa, hCl, hDi, hBi, hCn⟩, ⟨hTe, hBe, hNo, hPo⟩⟩ := hR'
  have b1 := hBe.1
  have b2 := hBe.2.1
  have bf : bI false = 0 := rfl
  have btr : bI true = 1 := rfl
  have fC := fR_s a ha0 m
  have fM := fM_s a ha0 m
  have mC := mR_s u hu0 m
  have mM := mM_s u hu0 m
  by_cases g1 : 0 ≤ a ∧ a ≤ 14
  · rw [decide_eq_true g1] at fC fM
    by_cases g2 : 0 ≤ u ∧ u ≤ 799
    · rw [decide_eq_true g2] at mC mM
      by_cases gb : vI m 98 33 = 1
      · obtain ⟨f, rfl⟩ : ∃ f : Nat, a = f := ⟨a.toNat, by omega⟩
        obtain ⟨K, k1, k2, k3, k4, k5⟩ := known_s hTe u g2
        obtain ⟨x1, m1, e1, F1, A1, d1, -⟩ := ready_s h gb K k2 k3
        have q1 : ∀ c k, ¬ (80 ≤ c ∧ c ≤ 92) → gI m1 c k = gI m c k := fun c k hc => F1.1 c k hc
        have v1 : ∀ c k, ¬ (80 ≤ c ∧ c ≤ 92) → vI m1 c k = vI m c k := fun c k hc => vI_of (q1 c k hc)
        have gb1 : vI m1 98 33 = 1 := by rw [v1 98 33 (by omega)]; exact gb
        obtain ⟨x2, m2, e2, F2, q2, gR2, r2⟩ := go_s (v := m1) A1 gb1 K k2 d1 u (by omega) (fun k hk => by rw [v1 134 k (by omega)]; exact k4 k hk) (by rw [v1 98 52 (by omega), v1 134 K (by omega)]; exact k5) (fun c k _ => rfl) rfl
        have A2 := RAll.go A1 gb1 q2 gR2
        obtain ⟨z, n1, n2, -⟩ := nextB (v := m2) (v' := m2) A1 K k2 d1 f (by omega) u g2 q2 (fun a ha => (r2 a ha).1)
        have fM1 := fM_s f ha0 m1
        have mM1 := mM_s u hu0 m1
        rw [decide_eq_true g1] at fM1
        rw [decide_eq_true g2] at mM1
        refine ⟨Zi z, m1, m2, ?_, ?_, A2⟩
        · rw [fX11_next_d]
          simp (disch := omega) only [fX11_next_0, qbI_s, qbL_s, qbV_s, qbR_s, qbR_n, qbN_s, qbN_n, qbIX_s, qbIX_n, qbVX_s, qbVX_n, cond_true, cond_false, cond_dec, jadd, jsub, jmul, jneg, li_0, li_1, li_2, li_3, li_4, li_5, li_6, li_7, li_8, li_9, li_10, li_14, li_15, li_16, li_19, li_20, li_24, li_30, li_31, li_32, li_39, li_40, li_48, li_57, li_59, li_60, li_63, li_65, li_80, li_81, li_90, li_97, li_99, li_100, li_122, li_126, li_127, li_150, li_160, li_200, li_225, li_255, li_400, li_799, li_800, li_999, li_2400, li_3239, li_3240, li_1048575, li_1431655765, li_858993459, li_252645135, eqb_j, ltb_j, leb_j, inb_j, ix_j, ix_n, nz_b, nz_0, nz_1, eqb_b, bnot, vI_ne, vI_eq, gIL, gLI, gIR, gRI, gLR, gRL, Int.reduceLT, Int.reduceLE, Int.reduceEq, Int.reduceAdd, Int.reduceSub, Int.reduceMul, Int.reduceNeg, Int.reduceToNat, Nat.reduceEqDiff, reduceIte, if_neg, if_pos, gI_ne, fC, mC, gIv 0, b1, gb, btr, k1, e1, n1]
        · rw [fX13_next_d]
          simp (disch := omega) only [fX13_next_0, qbI_s, qbL_s, qbV_s, qbR_s, qbR_n, qbN_s, qbN_n, qbIX_s, qbIX_n, qbVX_s, qbVX_n, cond_true, cond_false, cond_dec, jadd, jsub, jmul, jneg, li_0, li_1, li_2, li_3, li_4, li_5, li_6, li_7, li_8, li_9, li_10, li_14, li_15, li_16, li_19, li_20, li_24, li_30, li_31, li_32, li_39, li_40, li_48, li_57, li_59, li_60, li_63, li_65, li_80, li_81, li_90, li_97, li_99, li_100, li_122, li_126, li_127, li_150, li_160, li_200, li_225, li_255, li_400, li_799, li_800, li_999, li_2400, li_3239, li_3240, li_1048575, li_1431655765, li_858993459, li_252645135, eqb_j, ltb_j, leb_j, inb_j, ix_j, ix_n, nz_b, nz_0, nz_1, eqb_b, bnot, vI_ne, vI_eq, gIL, gLI, gIR, gRI, gLR, gRL, Int.reduceLT, Int.reduceLE, Int.reduceEq, Int.reduceAdd, Int.reduceSub, Int.reduceMul, Int.reduceNeg, Int.reduceToNat, Nat.reduceEqDiff, reduceIte, if_neg, if_pos, gI_ne, fM1, mM1, gIv 98, gb1, btr, e2, n2]
      · have gb0 : vI m 98 33 = 0 := by omega
        refine QOp.all h (QOp.same (x := Zi (-4)) hR ?_ ?_)
        · rw [fX11_next_d]
          simp (disch := omega) only [fX11_next_0, qbI_s, qbL_s, qbV_s, qbR_s, qbR_n, qbN_s, qbN_n, qbIX_s, qbIX_n, qbVX_s, qbVX_n, cond_true, cond_false, cond_dec, jadd, jsub, jmul, jneg, li_0, li_1, li_2, li_3, li_4, li_5, li_6, li_7, li_8, li_9, li_10, li_14, li_15, li_16, li_19, li_20, li_24, li_30, li_31, li_32, li_39, li_40, li_48, li_57, li_59, li_60, li_63, li_65, li_80, li_81, li_90, li_97, li_99, li_100, li_122, li_126, li_127, li_150, li_160, li_200, li_225, li_255, li_400, li_799, li_800, li_999, li_2400, li_3239, li_3240, li_1048575, li_1431655765, li_858993459, li_252645135, eqb_j, ltb_j, leb_j, inb_j, ix_j, ix_n, nz_b, nz_0, nz_1, eqb_b, bnot, vI_ne, vI_eq, gIL, gLI, gIR, gRI, gLR, gRL, Int.reduceLT, Int.reduceLE, Int.reduceEq, Int.reduceAdd, Int.reduceSub, Int.reduceMul, Int.reduceNeg, Int.reduceToNat, Nat.reduceEqDiff, reduceIte, if_neg, if_pos, gI_ne, fC, mC, gIv 0, b1, gb0, btr, show (-4 : Int32) = Zi (-4) from rfl]
        · rw [fX13_next_d]
          simp (disch := omega) only [fX13_next_0, qbI_s, qbL_s, qbV_s, qbR_s, qbR_n, qbN_s, qbN_n, qbIX_s, qbIX_n, qbVX_s, qbVX_n, cond_true, cond_false, cond_dec, jadd, jsub, jmul, jneg, li_0, li_1, li_2, li_3, li_4, li_5, li_6, li_7, li_8, li_9, li_10, li_14, li_15, li_16, li_19, li_20, li_24, li_30, li_31, li_32, li_39, li_40, li_48, li_57, li_59, li_60, li_63, li_65, li_80, li_81, li_90, li_97, li_99, li_100, li_122, li_126, li_127, li_150, li_160, li_200, li_225, li_255, li_400, li_799, li_800, li_999, li_2400, li_3239, li_3240, li_1048575, li_1431655765, li_858993459, li_252645135, eqb_j, ltb_j, leb_j, inb_j, ix_j, ix_n, nz_b, nz_0, nz_1, eqb_b, bnot, vI_ne, vI_eq, gIL, gLI, gIR, gRI, gLR, gRL, Int.reduceLT, Int.reduceLE, Int.reduceEq, Int.reduceAdd, Int.reduceSub, Int.reduceMul, Int.reduceNeg, Int.reduceToNat, Nat.reduceEqDiff, reduceIte, if_neg, if_pos, gI_ne, fM, mM, gIv 98, gb0, btr, show (-4 : Int32) = Zi (-4) from rfl]
    · rw [decide_eq_false g2] at mC mM
      refine QOp.all h (QOp.same (x := Zi (-2)) hR ?_ ?_)
      · rw [fX11_next_d]
        simp (disch := omega) only [fX11_next_0, fX11_next_6, qbI_s, qbL_s, qbV_s, qbR_s, qbR_n, qbN_s, qbN_n, qbIX_s, qbIX_n, qbVX_s, qbVX_n, cond_true, cond_false, cond_dec, jadd, jsub, jmul, jneg, li_0, li_1, li_2, li_3, li_4, li_5, li_6, li_7, li_8, li_9, li_10, li_14, li_15, li_16, li_19, li_20, li_24, li_30, li_31, li_32, li_39, li_40, li_48, li_57, li_59, li_60, li_63, li_65, li_80, li_81, li_90, li_97, li_99, li_100, li_122, li_126, li_127, li_150, li_160, li_200, li_225, li_255, li_400, li_799, li_800, li_999, li_2400, li_3239, li_3240, li_1048575, li_1431655765, li_858993459, li_252645135, eqb_j, ltb_j, leb_j, inb_j, ix_j, ix_n, nz_b, nz_0, nz_1, eqb_b, bnot, vI_ne, vI_eq, gIL, gLI, gIR, gRI, gLR, gRL, Int.reduceLT, Int.reduceLE, Int.reduceEq, Int.reduceAdd, Int.reduceSub, Int.reduceMul, Int.reduceNeg, Int.reduceToNat, Nat.reduceEqDiff, reduceIte, if_neg, if_pos, gI_ne, fC, mC, btr, bf, show (-2 : Int32) = Zi (-2) from rfl]
      · rw [fX13_next_d]
        simp (disch := omega) only [fX13_next_0, fX13_next_7, qbI_s, qbL_s, qbV_s, qbR_s, qbR_n, qbN_s, qbN_n, qbIX_s, qbIX_n, qbVX_s, qbVX_n, cond_true, cond_false, cond_dec, jadd, jsub, jmul, jneg, li_0, li_1, li_2, li_3, li_4, li_5, li_6, li_7, li_8, li_9, li_10, li_14, li_15, li_16, li_19, li_20, li_24, li_30, li_31, li_32, li_39, li_40, li_48, li_57, li_59, li_60, li_63, li_65, li_80, li_81, li_90, li_97, li_99, li_100, li_122, li_126, li_127, li_150, li_160, li_200, li_225, li_255, li_400, li_799, li_800, li_999, li_2400, li_3239, li_3240, li_1048575, li_1431655765, li_858993459, li_252645135, eqb_j, ltb_j, leb_j, inb_j, ix_j, ix_n, nz_b, nz_0, nz_1, eqb_b, bnot, vI_ne, vI_eq, gIL, gLI, gIR, gRI, gLR, gRL, Int.reduceLT, Int.reduceLE, Int.reduceEq, Int.reduceAdd, Int.reduceSub, Int.reduceMul, Int.reduceNeg, Int.reduceToNat, Nat.reduceEqDiff, reduceIte, if_neg, if_pos, gI_ne, fM, mM, btr, bf, show (-2 : Int32) = Zi (-2) from rfl]
  · rw [decide_eq_false g1] at fC fM
    refine QOp.all h (QOp.same (x := Zi (-2)) hR ?_ ?_)
    · rw [fX11_next_d]
      simp (disch := omega) only [fX11_next_0, fX11_next_6, qbI_s, qbL_s, qbV_s, qbR_s, qbR_n, qbN_s, qbN_n, qbIX_s, qbIX_n, qbVX_s, qbVX_n, cond_true, cond_false, cond_dec, jadd, jsub, jmul, jneg, li_0, li_1, li_2, li_3, li_4, li_5, li_6, li_7, li_8, li_9, li_10, li_14, li_15, li_16, li_19, li_20, li_24, li_30, li_31, li_32, li_39, li_40, li_48, li_57, li_59, li_60, li_63, li_65, li_80, li_81, li_90, li_97, li_99, li_100, li_122, li_126, li_127, li_150, li_160, li_200, li_225, li_255, li_400, li_799, li_800, li_999, li_2400, li_3239, li_3240, li_1048575, li_1431655765, li_858993459, li_252645135, eqb_j, ltb_j, leb_j, inb_j, ix_j, ix_n, nz_b, nz_0, nz_1, eqb_b, bnot, vI_ne, vI_eq, gIL, gLI, gIR, gRI, gLR, gRL, Int.reduceLT, Int.reduceLE, Int.reduceEq, Int.reduceAdd, Int.reduceSub, Int.reduceMul, Int.reduceNeg, Int.reduceToNat, Nat.reduceEqDiff, reduceIte, if_neg, if_pos, gI_ne, fC, bf, show (-2 : Int32) = Zi (-2) from rfl]
    · rw [fX13_next_d]
      simp (disch := omega) only [fX13_next_0, fX13_next_7, qbI_s, qbL_s, qbV_s, qbR_s, qbR_n, qbN_s, qbN_n, qbIX_s, qbIX_n, qbVX_s, qbVX_n, cond_true, cond_false, cond_dec, jadd, jsub, jmul, jneg, li_0, li_1, li_2, li_3, li_4, li_5, li_6, li_7, li_8, li_9, li_10, li_14, li_15, li_16, li_19, li_20, li_24, li_30, li_31, li_32, li_39, li_40, li_48, li_57, li_59, li_60, li_63, li_65, li_80, li_81, li_90, li_97, li_99, li_100, li_122, li_126, li_127, li_150, li_160, li_200, li_225, li_255, li_400, li_799, li_800, li_999, li_2400, li_3239, li_3240, li_1048575, li_1431655765, li_858993459, li_252645135, eqb_j, ltb_j, leb_j, inb_j, ix_j, ix_n, nz_b, nz_0, nz_1, eqb_b, bnot, vI_ne, vI_eq, gIL, gLI, gIR, gRI, gLR, gRL, Int.reduceLT, Int.reduceLE, Int.reduceEq, Int.reduceAdd, Int.reduceSub, Int.reduceMul, Int.reduceNeg, Int.reduceToNat, Nat.reduceEqDiff, reduceIte, if_neg, if_pos, gI_ne, fM, bf, show (-2 : Int32) = Zi (-2) from rfl]
