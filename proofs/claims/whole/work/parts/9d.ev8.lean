/-! the evening: minute by minute, both machines -/
theorem idl_cg {d s s' : Nat → Nat → Int} {K t u : Nat} (h1 : s' 143 t = s 143 t) (h2 : s' 144 t = s 144 t) (h3 : ∀ a, d 124 a = t → (opn d s' a ↔ opn d s a)) (h : idl d s K t u) : idl d s' K t u := by
  rcases h with h | h | h | h
  · exact Or.inl (by rw [h1]; exact h)
  · exact Or.inr (Or.inl (by rw [h2]; exact h))
  · exact Or.inr (Or.inr (Or.inl h))
  · exact Or.inr (Or.inr (Or.inr fun a a1 a2 => h a ((h3 a a2).mp a1) a2))
def TF1 (m0 : qM) (s : Nat → Nat → Int) (K : Nat) (w : qM) (t u : Nat) : Prop := (0 ≤ vI w 86 t ∧ vI w 86 t ≤ 1000) ∧ s 143 t ≤ vI w 86 t ∧ s 144 t ≤ vI w 86 t ∧ ∀ u' : Nat, u ≤ u' → (u' : Int) < vI w 86 t → idl (vI m0) s K t u'
theorem TF1.cg {m0 : qM} {s s' : Nat → Nat → Int} {K : Nat} {w w' : qM} {t u : Nat} (h : TF1 m0 s K w t u) (h0 : vI w' 86 t = vI w 86 t) (h1 : s' 143 t = s 143 t) (h2 : s' 144 t = s 144 t) (h3 : ∀ a, vI m0 124 a = t → (opn (vI m0) s' a ↔ opn (vI m0) s a)) : TF1 m0 s' K w' t u := by
  obtain ⟨a1, a2, a3, a4⟩ := h
  exact ⟨by rw [h0]; exact a1, by rw [h0, h1]; exact a2, by rw [h0, h2]; exact a3, fun u' q1 q2 => idl_cg h1 h2 h3 (a4 u' q1 (by rw [← h0]; exact q2))⟩
theorem TF1.late {m0 : qM} {s : Nat → Nat → Int} {K : Nat} {w : qM} {t u u2 : Nat} (h : TF1 m0 s K w t u) (hu : u ≤ u2) : TF1 m0 s K w t u2 := ⟨h.1, h.2.1, h.2.2.1, fun u' q1 q2 => h.2.2.2 u' (by omega) q2⟩
theorem idleM {d s : Nat → Nat → Int} {K t u : Nat} {v : qM} (hD : DOk d) (hS : SI d s) (hT : TLd d K) (h : MS d s K v) (ht : t < 10) (hu : u < 800) (hi : idl d s K t u) (k74 : Int32 → qM → Option (Unit × qM)) (g : Nat) : fX13_goThrough_79 k74 (g + 1) (Zi u) (Zi t) v = fX13_goThrough_79 k74 g (Zi u) (Zi ((t : Int) + 1)) v := by
  have e143 := h.2.1 143 t (by unfold dyn; omega)
  have e144 := h.2.1 144 t (by unfold dyn; omega)
  have s4 := hS.2.2.2.1 t ht
  by_cases g1 : (u : Int) < s 143 t
  · simp (disch := omega) only [fX13_goThrough_79, fX13_goThrough_103, qbI_s, qbL_s, qbV_s, qbR_s, qbR_n, qbN_s, qbN_n, qbIX_s, qbIX_n, qbVX_s, qbVX_n, cond_true, cond_false, cond_dec, jadd, jsub, jmul, jneg, li_0, li_1, li_2, li_3, li_4, li_5, li_6, li_7, li_8, li_9, li_10, li_14, li_15, li_16, li_19, li_20, li_24, li_30, li_31, li_32, li_39, li_40, li_48, li_57, li_59, li_60, li_63, li_65, li_80, li_81, li_90, li_97, li_99, li_100, li_122, li_126, li_127, li_150, li_160, li_200, li_225, li_255, li_400, li_799, li_800, li_999, li_2400, li_3239, li_3240, li_1048575, li_1431655765, li_858993459, li_252645135, eqb_j, ltb_j, leb_j, inb_j, ix_j, ix_n, nz_b, nz_0, nz_1, eqb_b, bnot, vI_ne, vI_eq, gIL, gLI, gIR, gRI, gLR, gRL, Int.reduceLT, Int.reduceLE, Int.reduceEq, Int.reduceAdd, Int.reduceSub, Int.reduceMul, Int.reduceNeg, Int.reduceToNat, Nat.reduceEqDiff, reduceIte, if_neg, if_pos, gI_ne, gIv 143, e143]
  · by_cases g2 : (u : Int) < s 144 t
    · simp (disch := omega) only [fX13_goThrough_79, fX13_goThrough_103, qbI_s, qbL_s, qbV_s, qbR_s, qbR_n, qbN_s, qbN_n, qbIX_s, qbIX_n, qbVX_s, qbVX_n, cond_true, cond_false, cond_dec, jadd, jsub, jmul, jneg, li_0, li_1, li_2, li_3, li_4, li_5, li_6, li_7, li_8, li_9, li_10, li_14, li_15, li_16, li_19, li_20, li_24, li_30, li_31, li_32, li_39, li_40, li_48, li_57, li_59, li_60, li_63, li_65, li_80, li_81, li_90, li_97, li_99, li_100, li_122, li_126, li_127, li_150, li_160, li_200, li_225, li_255, li_400, li_799, li_800, li_999, li_2400, li_3239, li_3240, li_1048575, li_1431655765, li_858993459, li_252645135, eqb_j, ltb_j, leb_j, inb_j, ix_j, ix_n, nz_b, nz_0, nz_1, eqb_b, bnot, vI_ne, vI_eq, gIL, gLI, gIR, gRI, gLR, gRL, Int.reduceLT, Int.reduceLE, Int.reduceEq, Int.reduceAdd, Int.reduceSub, Int.reduceMul, Int.reduceNeg, Int.reduceToNat, Nat.reduceEqDiff, reduceIte, if_neg, if_pos, gI_ne, gIv 143, e143, gIv 144, e144]
    · have aw := awayM h hT t ht u (by omega)
      by_cases g3 : awy d K t u
      · rw [pd_t g3] at aw
        simp (disch := omega) only [fX13_goThrough_79, fX13_goThrough_103, qbI_s, qbL_s, qbV_s, qbR_s, qbR_n, qbN_s, qbN_n, qbIX_s, qbIX_n, qbVX_s, qbVX_n, cond_true, cond_false, cond_dec, jadd, jsub, jmul, jneg, li_0, li_1, li_2, li_3, li_4, li_5, li_6, li_7, li_8, li_9, li_10, li_14, li_15, li_16, li_19, li_20, li_24, li_30, li_31, li_32, li_39, li_40, li_48, li_57, li_59, li_60, li_63, li_65, li_80, li_81, li_90, li_97, li_99, li_100, li_122, li_126, li_127, li_150, li_160, li_200, li_225, li_255, li_400, li_799, li_800, li_999, li_2400, li_3239, li_3240, li_1048575, li_1431655765, li_858993459, li_252645135, eqb_j, ltb_j, leb_j, inb_j, ix_j, ix_n, nz_b, nz_0, nz_1, eqb_b, bnot, vI_ne, vI_eq, gIL, gLI, gIR, gRI, gLR, gRL, Int.reduceLT, Int.reduceLE, Int.reduceEq, Int.reduceAdd, Int.reduceSub, Int.reduceMul, Int.reduceNeg, Int.reduceToNat, Nat.reduceEqDiff, reduceIte, if_neg, if_pos, gI_ne, gIv 143, e143, gIv 144, e144, aw, show bI true = 1 from rfl]
      · rw [pd_f g3] at aw
        have hi' : ∀ a, opn d s a → d 124 a = t → (u : Int) < d 99 0 * d 125 a := by
          rcases hi with h | h | h | h
          · exact absurd h g1
          · exact absurd h g2
          · exact absurd h g3
          · exact h
        have lk : fX13_look (Zi t) (Zi u) v = some ((), v) := by
          obtain ⟨z, f1, f2⟩ := frontM hD hS h t ht (-1) (by omega)
          rw [fX13_look_d]
          rcases f2 with ⟨z1, z2⟩ | ⟨c, z1, z2, z3, z4, z5, z6⟩
          · rw [z1] at f1
            simp (disch := omega) only [fX13_look_0, fX13_look_13, qbI_s, qbL_s, qbV_s, qbR_s, qbR_n, qbN_s, qbN_n, qbIX_s, qbIX_n, qbVX_s, qbVX_n, cond_true, cond_false, cond_dec, jadd, jsub, jmul, jneg, li_0, li_1, li_2, li_3, li_4, li_5, li_6, li_7, li_8, li_9, li_10, li_14, li_15, li_16, li_19, li_20, li_24, li_30, li_31, li_32, li_39, li_40, li_48, li_57, li_59, li_60, li_63, li_65, li_80, li_81, li_90, li_97, li_99, li_100, li_122, li_126, li_127, li_150, li_160, li_200, li_225, li_255, li_400, li_799, li_800, li_999, li_2400, li_3239, li_3240, li_1048575, li_1431655765, li_858993459, li_252645135, eqb_j, ltb_j, leb_j, inb_j, ix_j, ix_n, nz_b, nz_0, nz_1, eqb_b, bnot, vI_ne, vI_eq, gIL, gLI, gIR, gRI, gLR, gRL, Int.reduceLT, Int.reduceLE, Int.reduceEq, Int.reduceAdd, Int.reduceSub, Int.reduceMul, Int.reduceNeg, Int.reduceToNat, Nat.reduceEqDiff, reduceIte, if_neg, if_pos, gI_ne, f1, show (-1 : Int32) = Zi (-1) from rfl]
          · have mM := minM hD h c z3.1 z3.2.1
            have mr := min_r hD c z3.1 z3.2.1
            have := hi' c z3 z4
            have n2 := hD.2.2.2.2.2.1
            have c1 := z3.1
            rw [z1] at f1
            simp (disch := omega) only [fX13_look_0, fX13_look_13, qbI_s, qbL_s, qbV_s, qbR_s, qbR_n, qbN_s, qbN_n, qbIX_s, qbIX_n, qbVX_s, qbVX_n, cond_true, cond_false, cond_dec, jadd, jsub, jmul, jneg, li_0, li_1, li_2, li_3, li_4, li_5, li_6, li_7, li_8, li_9, li_10, li_14, li_15, li_16, li_19, li_20, li_24, li_30, li_31, li_32, li_39, li_40, li_48, li_57, li_59, li_60, li_63, li_65, li_80, li_81, li_90, li_97, li_99, li_100, li_122, li_126, li_127, li_150, li_160, li_200, li_225, li_255, li_400, li_799, li_800, li_999, li_2400, li_3239, li_3240, li_1048575, li_1431655765, li_858993459, li_252645135, eqb_j, ltb_j, leb_j, inb_j, ix_j, ix_n, nz_b, nz_0, nz_1, eqb_b, bnot, vI_ne, vI_eq, gIL, gLI, gIR, gRI, gLR, gRL, Int.reduceLT, Int.reduceLE, Int.reduceEq, Int.reduceAdd, Int.reduceSub, Int.reduceMul, Int.reduceNeg, Int.reduceToNat, Nat.reduceEqDiff, reduceIte, if_neg, if_pos, gI_ne, f1, mM, show (-1 : Int32) = Zi (-1) from rfl]
        simp (disch := omega) only [fX13_goThrough_79, fX13_goThrough_103, qbI_s, qbL_s, qbV_s, qbR_s, qbR_n, qbN_s, qbN_n, qbIX_s, qbIX_n, qbVX_s, qbVX_n, cond_true, cond_false, cond_dec, jadd, jsub, jmul, jneg, li_0, li_1, li_2, li_3, li_4, li_5, li_6, li_7, li_8, li_9, li_10, li_14, li_15, li_16, li_19, li_20, li_24, li_30, li_31, li_32, li_39, li_40, li_48, li_57, li_59, li_60, li_63, li_65, li_80, li_81, li_90, li_97, li_99, li_100, li_122, li_126, li_127, li_150, li_160, li_200, li_225, li_255, li_400, li_799, li_800, li_999, li_2400, li_3239, li_3240, li_1048575, li_1431655765, li_858993459, li_252645135, eqb_j, ltb_j, leb_j, inb_j, ix_j, ix_n, nz_b, nz_0, nz_1, eqb_b, bnot, vI_ne, vI_eq, gIL, gLI, gIR, gRI, gLR, gRL, Int.reduceLT, Int.reduceLE, Int.reduceEq, Int.reduceAdd, Int.reduceSub, Int.reduceMul, Int.reduceNeg, Int.reduceToNat, Nat.reduceEqDiff, reduceIte, if_neg, if_pos, gI_ne, gIv 143, e143, gIv 144, e144, aw, lk, show bI false = 0 from rfl]
theorem idleAll {d s : Nat → Nat → Int} {K u : Nat} {v : qM} (hD : DOk d) (hS : SI d s) (hT : TLd d K) (h : MS d s K v) (hu : u < 800) (k74 : Int32 → qM → Option (Unit × qM)) : ∀ (r t g : Nat), t + r = 10 → r < g → (∀ t', t ≤ t' → t' < 10 → idl d s K t' u) → fX13_goThrough_79 k74 g (Zi u) (Zi t) v = k74 (Zi ((u : Int) + 1)) v := by
  intro r
  induction r with
  | zero =>
    intro t g ht hg hi
    obtain ⟨g, rfl⟩ : ∃ g', g = g' + 1 := ⟨g - 1, by omega⟩
    simp (disch := omega) only [fX13_goThrough_79, qbI_s, qbL_s, qbV_s, qbR_s, qbR_n, qbN_s, qbN_n, qbIX_s, qbIX_n, qbVX_s, qbVX_n, cond_true, cond_false, cond_dec, jadd, jsub, jmul, jneg, li_0, li_1, li_2, li_3, li_4, li_5, li_6, li_7, li_8, li_9, li_10, li_14, li_15, li_16, li_19, li_20, li_24, li_30, li_31, li_32, li_39, li_40, li_48, li_57, li_59, li_60, li_63, li_65, li_80, li_81, li_90, li_97, li_99, li_100, li_122, li_126, li_127, li_150, li_160, li_200, li_225, li_255, li_400, li_799, li_800, li_999, li_2400, li_3239, li_3240, li_1048575, li_1431655765, li_858993459, li_252645135, eqb_j, ltb_j, leb_j, inb_j, ix_j, ix_n, nz_b, nz_0, nz_1, eqb_b, bnot, vI_ne, vI_eq, gIL, gLI, gIR, gRI, gLR, gRL, Int.reduceLT, Int.reduceLE, Int.reduceEq, Int.reduceAdd, Int.reduceSub, Int.reduceMul, Int.reduceNeg, Int.reduceToNat, Nat.reduceEqDiff, reduceIte, if_neg, if_pos, gI_ne]
  | succ r ih =>
    intro t g ht hg hi
    obtain ⟨g, rfl⟩ : ∃ g', g = g' + 1 := ⟨g - 1, by omega⟩
    rw [idleM hD hS hT h (by omega) hu (hi t (Nat.le_refl _) (by omega)) k74 g]
    exact ih (t + 1) g (by omega) (by omega) (fun t' h1 h2 => hi t' (by omega) h2)
theorem skipM2 {d s : Nat → Nat → Int} {K : Nat} {v : qM} (hD : DOk d) (hS : SI d s) (hT : TLd d K) (h : MS d s K v) (k109 : Int32 → qM → Option (Unit × qM)) : ∀ (k a g : Nat), a + k ≤ 800 → (∀ u t, a ≤ u → u < a + k → t < 10 → idl d s K t u) → fX13_goThrough_74 k109 (g + k) (Zi a) v = fX13_goThrough_74 k109 g (Zi ((a + k : Nat) : Int)) v := by
  intro k
  induction k with
  | zero => intro a g ha hi; rfl
  | succ k ih =>
    intro a g ha hi
    have n := ih (a + 1) g (by omega) (fun u t h1 h2 h3 => hi u t (by omega) (by omega) h3)
    have o := idleAll hD hS hT h (u := a) (by omega) (fX13_goThrough_74 k109 (g + k)) 10 0 FU rfl (by rw [FU_d]; omega) (fun t' _ h2 => hi a t' (Nat.le_refl _) (by omega) h2)
    rw [show g + (k + 1) = (g + k) + 1 by omega, show a + (k + 1) = a + 1 + k by omega, ← n]
    simp (disch := omega) only [fX13_goThrough_74, qbI_s, qbL_s, qbV_s, qbR_s, qbR_n, qbN_s, qbN_n, qbIX_s, qbIX_n, qbVX_s, qbVX_n, cond_true, cond_false, cond_dec, jadd, jsub, jmul, jneg, li_0, li_1, li_2, li_3, li_4, li_5, li_6, li_7, li_8, li_9, li_10, li_14, li_15, li_16, li_19, li_20, li_24, li_30, li_31, li_32, li_39, li_40, li_48, li_57, li_59, li_60, li_63, li_65, li_80, li_81, li_90, li_97, li_99, li_100, li_122, li_126, li_127, li_150, li_160, li_200, li_225, li_255, li_400, li_799, li_800, li_999, li_2400, li_3239, li_3240, li_1048575, li_1431655765, li_858993459, li_252645135, eqb_j, ltb_j, leb_j, inb_j, ix_j, ix_n, nz_b, nz_0, nz_1, eqb_b, bnot, vI_ne, vI_eq, gIL, gLI, gIR, gRI, gLR, gRL, Int.reduceLT, Int.reduceLE, Int.reduceEq, Int.reduceAdd, Int.reduceSub, Int.reduceMul, Int.reduceNeg, Int.reduceToNat, Nat.reduceEqDiff, reduceIte, if_neg, if_pos, gI_ne]
    exact o
/-- one minute -/
theorem minB {m0 : qM} (hR : R0 m0) {K u : Nat} (hK : K ≤ 80) (hKn : (K : Int) ≤ vI m0 98 52) (hu : u < 800) : ∀ (r t : Nat) (s : Nat → Nat → Int) (w : qM) (soon : Int), t + r = 10 → CS m0 s K w → SI (vI m0) s → (∀ t', t' < t → TF1 m0 s K w t' (u + 1)) → (∀ t', t ≤ t' → t' < 10 → TF1 m0 s K w t' u) → (0 ≤ soon ∧ soon ≤ 800) → (∀ t', t' < t → soon ≤ vI w 86 t') → ∃ (s' : Nat → Nat → Int) (w' : qM) (soon' : Int), CS m0 s' K w' ∧ SI (vI m0) s' ∧ (∀ t', t' < 10 → TF1 m0 s' K w' t' (u + 1)) ∧ (0 ≤ soon' ∧ soon' ≤ 800) ∧ (∀ t', t' < 10 → soon' ≤ vI w' 86 t') ∧ (∀ (k16 : Int32 → Int32 → qM → Option (Unit × qM)) g, r < g → fX1_makeReady_23 k16 g (Zi K) (Zi u) (Zi soon) (Zi t) w = k16 (Zi K) (Zi (max ((u : Int) + 1) soon')) w') ∧ ∀ v, MS (vI m0) s K v → ∃ v', MS (vI m0) s' K v' ∧ Fr DynF v v' ∧ ∀ k74 g, r < g → fX13_goThrough_79 k74 g (Zi u) (Zi t) v = k74 (Zi ((u : Int) + 1)) v' := by
  have hT := TLd.of hR K hKn
  intro r
  induction r with
  | zero =>
    intro t s w soon ht h hS h1 h2 h3 h4
    have : t = 10 := by omega
    subst this
    refine ⟨s, w, soon, h, hS, h1, h3, h4, fun k16 g hg => ?_, fun v hv => ⟨v, hv, Fr.rf v, fun k74 g hg => ?_⟩⟩
    · obtain ⟨g, rfl⟩ : ∃ g', g = g' + 1 := ⟨g - 1, by omega⟩
      simp (disch := omega) only [fX1_makeReady_23, qbI_s, qbL_s, qbV_s, qbR_s, qbR_n, qbN_s, qbN_n, qbIX_s, qbIX_n, qbVX_s, qbVX_n, cond_true, cond_false, cond_dec, jadd, jsub, jmul, jneg, li_0, li_1, li_2, li_3, li_4, li_5, li_6, li_7, li_8, li_9, li_10, li_14, li_15, li_16, li_19, li_20, li_24, li_30, li_31, li_32, li_39, li_40, li_48, li_57, li_59, li_60, li_63, li_65, li_80, li_81, li_90, li_97, li_99, li_100, li_122, li_126, li_127, li_150, li_160, li_200, li_225, li_255, li_400, li_799, li_800, li_999, li_2400, li_3239, li_3240, li_1048575, li_1431655765, li_858993459, li_252645135, eqb_j, ltb_j, leb_j, inb_j, ix_j, ix_n, nz_b, nz_0, nz_1, eqb_b, bnot, vI_ne, vI_eq, gIL, gLI, gIR, gRI, gLR, gRL, Int.reduceLT, Int.reduceLE, Int.reduceEq, Int.reduceAdd, Int.reduceSub, Int.reduceMul, Int.reduceNeg, Int.reduceToNat, Nat.reduceEqDiff, reduceIte, if_neg, if_pos, gI_ne, max_s]
    · obtain ⟨g, rfl⟩ : ∃ g', g = g' + 1 := ⟨g - 1, by omega⟩
      simp (disch := omega) only [fX13_goThrough_79, qbI_s, qbL_s, qbV_s, qbR_s, qbR_n, qbN_s, qbN_n, qbIX_s, qbIX_n, qbVX_s, qbVX_n, cond_true, cond_false, cond_dec, jadd, jsub, jmul, jneg, li_0, li_1, li_2, li_3, li_4, li_5, li_6, li_7, li_8, li_9, li_10, li_14, li_15, li_16, li_19, li_20, li_24, li_30, li_31, li_32, li_39, li_40, li_48, li_57, li_59, li_60, li_63, li_65, li_80, li_81, li_90, li_97, li_99, li_100, li_122, li_126, li_127, li_150, li_160, li_200, li_225, li_255, li_400, li_799, li_800, li_999, li_2400, li_3239, li_3240, li_1048575, li_1431655765, li_858993459, li_252645135, eqb_j, ltb_j, leb_j, inb_j, ix_j, ix_n, nz_b, nz_0, nz_1, eqb_b, bnot, vI_ne, vI_eq, gIL, gLI, gIR, gRI, gLR, gRL, Int.reduceLT, Int.reduceLE, Int.reduceEq, Int.reduceAdd, Int.reduceSub, Int.reduceMul, Int.reduceNeg, Int.reduceToNat, Nat.reduceEqDiff, reduceIte, if_neg, if_pos, gI_ne]
  | succ r ih =>
    intro t s w soon ht h hS h1 h2 h3 h4
    have hD := DOk.of (CS.all hR h.1)
    have ht10 : t < 10 := by omega
    have T0 := h2 t (Nat.le_refl _) ht10
    by_cases g1 : vI w 86 t ≤ u
    · -- looks
      obtain ⟨s1, w1, e1, hO, hv1⟩ := lookB hR hK hKn ht10 hS h hu ⟨⟨T0.1.1, g1⟩, T0.2.1, T0.2.2.1⟩
      obtain ⟨o1, o2, o3, o4⟩ := hO
      obtain ⟨s', w', soon', b1, b2, b3, b4, b5, b6, b7⟩ := ih (t + 1) s1 w1 (min soon (vI w1 86 t)) (by omega) o1 o2 (fun t' q => by
        by_cases e : t' = t
        · rw [e]; exact o4
        · obtain ⟨c1, c2, c3, c4⟩ := o3 t' e
          exact (h1 t' (by omega)).cg c1 c2 c3 c4) (fun t' q1 q2 => by
        obtain ⟨c1, c2, c3, c4⟩ := o3 t' (by omega)
        exact (h2 t' (by omega) q2).cg c1 c2 c3 c4) (by have := o4.1; omega) (fun t' q => by
        by_cases e : t' = t
        · rw [e]; omega
        · have := h4 t' (by omega)
          rw [(o3 t' e).1]
          omega)
      refine ⟨s', w', soon', b1, b2, b3, b4, b5, fun k16 g hg => ?_, fun v hv => ?_⟩
      · obtain ⟨g, rfl⟩ : ∃ g', g = g' + 1 := ⟨g - 1, by omega⟩
        have n := b6 k16 g (by omega)
        have r86 := o4.1
        have t86 := T0.1
        simp (disch := omega) only [fX1_makeReady_23, fX1_makeReady_36, qbI_s, qbL_s, qbV_s, qbR_s, qbR_n, qbN_s, qbN_n, qbIX_s, qbIX_n, qbVX_s, qbVX_n, cond_true, cond_false, cond_dec, jadd, jsub, jmul, jneg, li_0, li_1, li_2, li_3, li_4, li_5, li_6, li_7, li_8, li_9, li_10, li_14, li_15, li_16, li_19, li_20, li_24, li_30, li_31, li_32, li_39, li_40, li_48, li_57, li_59, li_60, li_63, li_65, li_80, li_81, li_90, li_97, li_99, li_100, li_122, li_126, li_127, li_150, li_160, li_200, li_225, li_255, li_400, li_799, li_800, li_999, li_2400, li_3239, li_3240, li_1048575, li_1431655765, li_858993459, li_252645135, eqb_j, ltb_j, leb_j, inb_j, ix_j, ix_n, nz_b, nz_0, nz_1, eqb_b, bnot, vI_ne, vI_eq, gIL, gLI, gIR, gRI, gLR, gRL, Int.reduceLT, Int.reduceLE, Int.reduceEq, Int.reduceAdd, Int.reduceSub, Int.reduceMul, Int.reduceNeg, Int.reduceToNat, Nat.reduceEqDiff, reduceIte, if_neg, if_pos, gI_ne, gIv 86, e1, min_s]
        exact n
      · obtain ⟨v1, c1, c2, c3, c4⟩ := hv1 v hv
        obtain ⟨v', d1, d2, d3⟩ := b7 v1 c1
        refine ⟨v', d1, c2.tr d2, fun k74 g hg => ?_⟩
        obtain ⟨g, rfl⟩ : ∃ g', g = g' + 1 := ⟨g - 1, by omega⟩
        have n := d3 k74 g (by omega)
        have e143 := hv.2.1 143 t (by unfold dyn; omega)
        have e144 := hv.2.1 144 t (by unfold dyn; omega)
        have s4 := hS.2.2.2.1 t ht10
        have q143 := T0.2.1
        have q144 := T0.2.2.1
        have aw := awayM hv hT t ht10 u (by omega)
        by_cases g3 : awy (vI m0) K t u
        · rw [pd_t g3] at aw
          rw [c3 g3] at n
          simp (disch := omega) only [fX13_goThrough_79, fX13_goThrough_103, qbI_s, qbL_s, qbV_s, qbR_s, qbR_n, qbN_s, qbN_n, qbIX_s, qbIX_n, qbVX_s, qbVX_n, cond_true, cond_false, cond_dec, jadd, jsub, jmul, jneg, li_0, li_1, li_2, li_3, li_4, li_5, li_6, li_7, li_8, li_9, li_10, li_14, li_15, li_16, li_19, li_20, li_24, li_30, li_31, li_32, li_39, li_40, li_48, li_57, li_59, li_60, li_63, li_65, li_80, li_81, li_90, li_97, li_99, li_100, li_122, li_126, li_127, li_150, li_160, li_200, li_225, li_255, li_400, li_799, li_800, li_999, li_2400, li_3239, li_3240, li_1048575, li_1431655765, li_858993459, li_252645135, eqb_j, ltb_j, leb_j, inb_j, ix_j, ix_n, nz_b, nz_0, nz_1, eqb_b, bnot, vI_ne, vI_eq, gIL, gLI, gIR, gRI, gLR, gRL, Int.reduceLT, Int.reduceLE, Int.reduceEq, Int.reduceAdd, Int.reduceSub, Int.reduceMul, Int.reduceNeg, Int.reduceToNat, Nat.reduceEqDiff, reduceIte, if_neg, if_pos, gI_ne, gIv 143, e143, gIv 144, e144, aw, show bI true = 1 from rfl]
          exact n
        · rw [pd_f g3] at aw
          have lk := c4 g3
          simp (disch := omega) only [fX13_goThrough_79, fX13_goThrough_103, qbI_s, qbL_s, qbV_s, qbR_s, qbR_n, qbN_s, qbN_n, qbIX_s, qbIX_n, qbVX_s, qbVX_n, cond_true, cond_false, cond_dec, jadd, jsub, jmul, jneg, li_0, li_1, li_2, li_3, li_4, li_5, li_6, li_7, li_8, li_9, li_10, li_14, li_15, li_16, li_19, li_20, li_24, li_30, li_31, li_32, li_39, li_40, li_48, li_57, li_59, li_60, li_63, li_65, li_80, li_81, li_90, li_97, li_99, li_100, li_122, li_126, li_127, li_150, li_160, li_200, li_225, li_255, li_400, li_799, li_800, li_999, li_2400, li_3239, li_3240, li_1048575, li_1431655765, li_858993459, li_252645135, eqb_j, ltb_j, leb_j, inb_j, ix_j, ix_n, nz_b, nz_0, nz_1, eqb_b, bnot, vI_ne, vI_eq, gIL, gLI, gIR, gRI, gLR, gRL, Int.reduceLT, Int.reduceLE, Int.reduceEq, Int.reduceAdd, Int.reduceSub, Int.reduceMul, Int.reduceNeg, Int.reduceToNat, Nat.reduceEqDiff, reduceIte, if_neg, if_pos, gI_ne, gIv 143, e143, gIv 144, e144, aw, lk, show bI false = 0 from rfl]
          exact n
    · obtain ⟨s', w', soon', b1, b2, b3, b4, b5, b6, b7⟩ := ih (t + 1) s w (min soon (vI w 86 t)) (by omega) h hS (fun t' q => by
        by_cases e : t' = t
        · rw [e]; exact T0.late (by omega)
        · exact h1 t' (by omega)) (fun t' q1 q2 => h2 t' (by omega) q2) (by have := T0.1; omega) (fun t' q => by
        by_cases e : t' = t
        · rw [e]; omega
        · have := h4 t' (by omega)
          omega)
      refine ⟨s', w', soon', b1, b2, b3, b4, b5, fun k16 g hg => ?_, fun v hv => ?_⟩
      · obtain ⟨g, rfl⟩ : ∃ g', g = g' + 1 := ⟨g - 1, by omega⟩
        have n := b6 k16 g (by omega)
        have t86 := T0.1
        simp (disch := omega) only [fX1_makeReady_23, fX1_makeReady_36, qbI_s, qbL_s, qbV_s, qbR_s, qbR_n, qbN_s, qbN_n, qbIX_s, qbIX_n, qbVX_s, qbVX_n, cond_true, cond_false, cond_dec, jadd, jsub, jmul, jneg, li_0, li_1, li_2, li_3, li_4, li_5, li_6, li_7, li_8, li_9, li_10, li_14, li_15, li_16, li_19, li_20, li_24, li_30, li_31, li_32, li_39, li_40, li_48, li_57, li_59, li_60, li_63, li_65, li_80, li_81, li_90, li_97, li_99, li_100, li_122, li_126, li_127, li_150, li_160, li_200, li_225, li_255, li_400, li_799, li_800, li_999, li_2400, li_3239, li_3240, li_1048575, li_1431655765, li_858993459, li_252645135, eqb_j, ltb_j, leb_j, inb_j, ix_j, ix_n, nz_b, nz_0, nz_1, eqb_b, bnot, vI_ne, vI_eq, gIL, gLI, gIR, gRI, gLR, gRL, Int.reduceLT, Int.reduceLE, Int.reduceEq, Int.reduceAdd, Int.reduceSub, Int.reduceMul, Int.reduceNeg, Int.reduceToNat, Nat.reduceEqDiff, reduceIte, if_neg, if_pos, gI_ne, gIv 86, min_s]
        exact n
      · obtain ⟨v', d1, d2, d3⟩ := b7 v hv
        refine ⟨v', d1, d2, fun k74 g hg => ?_⟩
        obtain ⟨g, rfl⟩ : ∃ g', g = g' + 1 := ⟨g - 1, by omega⟩
        rw [idleM hD hS hT hv ht10 hu (T0.2.2.2 u (Nat.le_refl _) (by omega)) k74 g]
        exact d3 k74 g (by omega)
/-- all minutes -/
theorem runB {m0 : qM} (hR : R0 m0) {K : Nat} (hK : K ≤ 80) (hKn : (K : Int) ≤ vI m0 98 52) : ∀ (n u : Nat) (s : Nat → Nat → Int) (w : qM), 800 - u = n → u ≤ 800 → CS m0 s K w → SI (vI m0) s → (∀ t', t' < 10 → TF1 m0 s K w t' u) → ∃ (s' : Nat → Nat → Int) (w' : qM), CS m0 s' K w' ∧ SI (vI m0) s' ∧ (∀ g, 800 - u < g → fX1_makeReady_16 g (Zi K) (Zi u) w = some ((), sI w' 83 K (Zi 1))) ∧ ∀ v, MS (vI m0) s K v → ∃ v', MS (vI m0) s' K v' ∧ Fr DynF v v' ∧ ∀ k109 g, 800 - u < g → fX13_goThrough_74 k109 g (Zi u) v = k109 (Zi 0) v' := by
  have hT := TLd.of hR K hKn
  intro n
  induction n using Nat.strongRecOn with
  | _ n ih =>
  intro u s w hn hu h hS hTF
  have hD := DOk.of (CS.all hR h.1)
  by_cases g0 : u = 800
  · subst g0
    refine ⟨s, w, h, hS, fun g hg => ?_, fun v hv => ⟨v, hv, Fr.rf v, fun k109 g hg => ?_⟩⟩
    · obtain ⟨g, rfl⟩ : ∃ g', g = g' + 1 := ⟨g - 1, by omega⟩
      simp (disch := omega) only [fX1_makeReady_16, qbI_s, qbL_s, qbV_s, qbR_s, qbR_n, qbN_s, qbN_n, qbIX_s, qbIX_n, qbVX_s, qbVX_n, cond_true, cond_false, cond_dec, jadd, jsub, jmul, jneg, li_0, li_1, li_2, li_3, li_4, li_5, li_6, li_7, li_8, li_9, li_10, li_14, li_15, li_16, li_19, li_20, li_24, li_30, li_31, li_32, li_39, li_40, li_48, li_57, li_59, li_60, li_63, li_65, li_80, li_81, li_90, li_97, li_99, li_100, li_122, li_126, li_127, li_150, li_160, li_200, li_225, li_255, li_400, li_799, li_800, li_999, li_2400, li_3239, li_3240, li_1048575, li_1431655765, li_858993459, li_252645135, eqb_j, ltb_j, leb_j, inb_j, ix_j, ix_n, nz_b, nz_0, nz_1, eqb_b, bnot, vI_ne, vI_eq, gIL, gLI, gIR, gRI, gLR, gRL, Int.reduceLT, Int.reduceLE, Int.reduceEq, Int.reduceAdd, Int.reduceSub, Int.reduceMul, Int.reduceNeg, Int.reduceToNat, Nat.reduceEqDiff, reduceIte, if_neg, if_pos, gI_ne]
    · obtain ⟨g, rfl⟩ : ∃ g', g = g' + 1 := ⟨g - 1, by omega⟩
      simp (disch := omega) only [fX13_goThrough_74, qbI_s, qbL_s, qbV_s, qbR_s, qbR_n, qbN_s, qbN_n, qbIX_s, qbIX_n, qbVX_s, qbVX_n, cond_true, cond_false, cond_dec, jadd, jsub, jmul, jneg, li_0, li_1, li_2, li_3, li_4, li_5, li_6, li_7, li_8, li_9, li_10, li_14, li_15, li_16, li_19, li_20, li_24, li_30, li_31, li_32, li_39, li_40, li_48, li_57, li_59, li_60, li_63, li_65, li_80, li_81, li_90, li_97, li_99, li_100, li_122, li_126, li_127, li_150, li_160, li_200, li_225, li_255, li_400, li_799, li_800, li_999, li_2400, li_3239, li_3240, li_1048575, li_1431655765, li_858993459, li_252645135, eqb_j, ltb_j, leb_j, inb_j, ix_j, ix_n, nz_b, nz_0, nz_1, eqb_b, bnot, vI_ne, vI_eq, gIL, gLI, gIR, gRI, gLR, gRL, Int.reduceLT, Int.reduceLE, Int.reduceEq, Int.reduceAdd, Int.reduceSub, Int.reduceMul, Int.reduceNeg, Int.reduceToNat, Nat.reduceEqDiff, reduceIte, if_neg, if_pos, gI_ne]
  · obtain ⟨s1, w1, soon, b1, b2, b3, b4, b5, b6, b7⟩ := minB hR hK hKn (show u < 800 by omega) 10 0 s w 800 rfl h hS (fun t' q => by omega) (fun t' _ q => hTF t' q) (by omega) (fun t' q => by omega)
    obtain ⟨U, hU⟩ : ∃ U : Nat, (U : Int) = max ((u : Int) + 1) soon := ⟨(max ((u : Int) + 1) soon).toNat, by omega⟩
    have hU2 : u + 1 ≤ U ∧ U ≤ 800 := by omega
    obtain ⟨s', w', c1, c2, c3, c4⟩ := ih (800 - U) (by omega) U s1 w1 rfl hU2.2 b1 b2 (fun t' q => (b3 t' q).late hU2.1)
    refine ⟨s', w', c1, c2, fun g hg => ?_, fun v hv => ?_⟩
    · obtain ⟨g, rfl⟩ : ∃ g', g = g' + 1 := ⟨g - 1, by omega⟩
      have n := b6 (fX1_makeReady_16 g) FU (by rw [FU_d]; omega)
      rw [← hU] at n
      simp (disch := omega) only [fX1_makeReady_16, qbI_s, qbL_s, qbV_s, qbR_s, qbR_n, qbN_s, qbN_n, qbIX_s, qbIX_n, qbVX_s, qbVX_n, cond_true, cond_false, cond_dec, jadd, jsub, jmul, jneg, li_0, li_1, li_2, li_3, li_4, li_5, li_6, li_7, li_8, li_9, li_10, li_14, li_15, li_16, li_19, li_20, li_24, li_30, li_31, li_32, li_39, li_40, li_48, li_57, li_59, li_60, li_63, li_65, li_80, li_81, li_90, li_97, li_99, li_100, li_122, li_126, li_127, li_150, li_160, li_200, li_225, li_255, li_400, li_799, li_800, li_999, li_2400, li_3239, li_3240, li_1048575, li_1431655765, li_858993459, li_252645135, eqb_j, ltb_j, leb_j, inb_j, ix_j, ix_n, nz_b, nz_0, nz_1, eqb_b, bnot, vI_ne, vI_eq, gIL, gLI, gIR, gRI, gLR, gRL, Int.reduceLT, Int.reduceLE, Int.reduceEq, Int.reduceAdd, Int.reduceSub, Int.reduceMul, Int.reduceNeg, Int.reduceToNat, Nat.reduceEqDiff, reduceIte, if_neg, if_pos, gI_ne]
      exact n.trans (c3 g (by omega))
    · obtain ⟨v1, d1, d2, d3⟩ := b7 v hv
      obtain ⟨v', e1, e2, e3⟩ := c4 v1 d1
      refine ⟨v', e1, d2.tr e2, fun k109 g hg => ?_⟩
      obtain ⟨k, hk⟩ : ∃ k, U = u + 1 + k := ⟨U - (u + 1), by omega⟩
      obtain ⟨g, rfl⟩ : ∃ g', g = g' + k + 1 := ⟨g - k - 1, by omega⟩
      have n := d3 (fX13_goThrough_74 k109 (g + k)) FU (by rw [FU_d]; omega)
      have m := skipM2 hD b2 hT d1 k109 k (u + 1) g (by omega) (fun u' t' q1 q2 q3 => by
        have f := b3 t' q3
        have l := b5 t' q3
        exact f.2.2.2 u' q1 (by omega))
      rw [← hk] at m
      have f := e3 k109 g (by omega)
      simp (disch := omega) only [fX13_goThrough_74, qbI_s, qbL_s, qbV_s, qbR_s, qbR_n, qbN_s, qbN_n, qbIX_s, qbIX_n, qbVX_s, qbVX_n, cond_true, cond_false, cond_dec, jadd, jsub, jmul, jneg, li_0, li_1, li_2, li_3, li_4, li_5, li_6, li_7, li_8, li_9, li_10, li_14, li_15, li_16, li_19, li_20, li_24, li_30, li_31, li_32, li_39, li_40, li_48, li_57, li_59, li_60, li_63, li_65, li_80, li_81, li_90, li_97, li_99, li_100, li_122, li_126, li_127, li_150, li_160, li_200, li_225, li_255, li_400, li_799, li_800, li_999, li_2400, li_3239, li_3240, li_1048575, li_1431655765, li_858993459, li_252645135, eqb_j, ltb_j, leb_j, inb_j, ix_j, ix_n, nz_b, nz_0, nz_1, eqb_b, bnot, vI_ne, vI_eq, gIL, gLI, gIR, gRI, gLR, gRL, Int.reduceLT, Int.reduceLE, Int.reduceEq, Int.reduceAdd, Int.reduceSub, Int.reduceMul, Int.reduceNeg, Int.reduceToNat, Nat.reduceEqDiff, reduceIte, if_neg, if_pos, gI_ne]
      exact n.trans (m.trans f)
