/-! ask: a new ask at the end of the rows -/
theorem ask_run (m : qM) (f t : Nat) (s : Int32) (h0 : 0 ≤ vI m 98 32 ∧ vI m 98 32 ≤ 40) (hf : f < 15) (ht : t < 10) : ∀ (r i g : Nat), (i : Int) + r = vI m 98 32 → r < g → (∃ k : Nat, i ≤ k ∧ (k : Int) < vI m 98 32 ∧ vI m 123 k = f ∧ vI m 124 k = t) → fX13_ask_15 g (Zi f) (Zi t) s (Zi i) m = some (Zi (-4), m) := by
  intro r
  induction r with
  | zero =>
    intro i g hi hg hk
    obtain ⟨k, k1, k2, -⟩ := hk
    exact absurd k2 (by omega)
  | succ r ih =>
    intro i g hi hg hk
    obtain ⟨g, rfl⟩ : ∃ g', g = g' + 1 := ⟨g - 1, by omega⟩
    have b1 := vI_r m 123 i
    have b2 := vI_r m 124 i
    by_cases c : vI m 123 i = f ∧ vI m 124 i = t
    · obtain ⟨c1, c2⟩ := c
      simp (disch := omega) only [fX13_ask_15, qbI_s, qbL_s, qbV_s, qbR_s, qbR_n, qbN_s, qbN_n, qbIX_s, qbIX_n, qbVX_s, qbVX_n, cond_true, cond_false, cond_dec, jadd, jsub, jmul, jneg, li_0, li_1, li_2, li_3, li_4, li_5, li_6, li_7, li_8, li_9, li_10, li_14, li_15, li_16, li_19, li_20, li_24, li_30, li_31, li_32, li_39, li_40, li_48, li_57, li_59, li_60, li_63, li_65, li_80, li_81, li_90, li_97, li_99, li_100, li_122, li_126, li_127, li_150, li_160, li_200, li_225, li_255, li_400, li_799, li_800, li_999, li_2400, li_3239, li_3240, li_1048575, li_1431655765, li_858993459, li_252645135, eqb_j, ltb_j, leb_j, inb_j, ix_j, ix_n, nz_b, nz_0, nz_1, eqb_b, bnot, vI_ne, vI_eq, gIL, gLI, gIR, gRI, gLR, gRL, Int.reduceLT, Int.reduceLE, Int.reduceEq, Int.reduceAdd, Int.reduceSub, Int.reduceMul, Int.reduceNeg, Int.reduceToNat, Nat.reduceEqDiff, reduceIte, if_neg, if_pos, gI_ne, gIv 98, gIv 123, gIv 124, c1, c2]
    · have nx := ih (i + 1) g (by omega) (by omega) (by
        obtain ⟨k, k1, k2, k3, k4⟩ := hk
        refine ⟨k, ?_, k2, k3, k4⟩
        by_cases e : k = i
        · rw [e] at k3 k4
          exact absurd ⟨k3, k4⟩ c
        · omega)
      have nx' : fX13_ask_15 g (Zi f) (Zi t) s (Zi ((i : Int) + 1)) m = some (Zi (-4), m) := nx
      by_cases c1 : vI m 123 i = f
      · have c2 : ¬ vI m 124 i = t := fun z => c ⟨c1, z⟩
        simp (disch := omega) only [fX13_ask_15, fX13_ask_33, qbI_s, qbL_s, qbV_s, qbR_s, qbR_n, qbN_s, qbN_n, qbIX_s, qbIX_n, qbVX_s, qbVX_n, cond_true, cond_false, cond_dec, jadd, jsub, jmul, jneg, li_0, li_1, li_2, li_3, li_4, li_5, li_6, li_7, li_8, li_9, li_10, li_14, li_15, li_16, li_19, li_20, li_24, li_30, li_31, li_32, li_39, li_40, li_48, li_57, li_59, li_60, li_63, li_65, li_80, li_81, li_90, li_97, li_99, li_100, li_122, li_126, li_127, li_150, li_160, li_200, li_225, li_255, li_400, li_799, li_800, li_999, li_2400, li_3239, li_3240, li_1048575, li_1431655765, li_858993459, li_252645135, eqb_j, ltb_j, leb_j, inb_j, ix_j, ix_n, nz_b, nz_0, nz_1, eqb_b, bnot, vI_ne, vI_eq, gIL, gLI, gIR, gRI, gLR, gRL, Int.reduceLT, Int.reduceLE, Int.reduceEq, Int.reduceAdd, Int.reduceSub, Int.reduceMul, Int.reduceNeg, Int.reduceToNat, Nat.reduceEqDiff, reduceIte, if_neg, if_pos, gI_ne, gIv 98, gIv 123, gIv 124, c1, nx']
      · simp (disch := omega) only [fX13_ask_15, fX13_ask_33, qbI_s, qbL_s, qbV_s, qbR_s, qbR_n, qbN_s, qbN_n, qbIX_s, qbIX_n, qbVX_s, qbVX_n, cond_true, cond_false, cond_dec, jadd, jsub, jmul, jneg, li_0, li_1, li_2, li_3, li_4, li_5, li_6, li_7, li_8, li_9, li_10, li_14, li_15, li_16, li_19, li_20, li_24, li_30, li_31, li_32, li_39, li_40, li_48, li_57, li_59, li_60, li_63, li_65, li_80, li_81, li_90, li_97, li_99, li_100, li_122, li_126, li_127, li_150, li_160, li_200, li_225, li_255, li_400, li_799, li_800, li_999, li_2400, li_3239, li_3240, li_1048575, li_1431655765, li_858993459, li_252645135, eqb_j, ltb_j, leb_j, inb_j, ix_j, ix_n, nz_b, nz_0, nz_1, eqb_b, bnot, vI_ne, vI_eq, gIL, gLI, gIR, gRI, gLR, gRL, Int.reduceLT, Int.reduceLE, Int.reduceEq, Int.reduceAdd, Int.reduceSub, Int.reduceMul, Int.reduceNeg, Int.reduceToNat, Nat.reduceEqDiff, reduceIte, if_neg, if_pos, gI_ne, gIv 98, gIv 123, gIv 124, nx']
theorem ask_miss (m : qM) (f t : Nat) (s : Int32) (h0 : 0 ≤ vI m 98 32 ∧ vI m 98 32 ≤ 40) (hf : f < 15) (ht : t < 10) : ∀ (r i g : Nat), (i : Int) + r = vI m 98 32 → r < g → (∀ k : Nat, (k : Int) < vI m 98 32 → ¬ (vI m 123 k = f ∧ vI m 124 k = t)) → ∃ g', fX13_ask_15 g (Zi f) (Zi t) s (Zi i) m = fX13_ask_15 (g' + 1) (Zi f) (Zi t) s (Zi (vI m 98 32)) m := by
  intro r
  induction r with
  | zero =>
    intro i g hi hg hk
    obtain ⟨g, rfl⟩ : ∃ g', g = g' + 1 := ⟨g - 1, by omega⟩
    exact ⟨g, by rw [show (i : Int) = vI m 98 32 by omega]⟩
  | succ r ih =>
    intro i g hi hg hk
    obtain ⟨g, rfl⟩ : ∃ g', g = g' + 1 := ⟨g - 1, by omega⟩
    have b1 := vI_r m 123 i
    have b2 := vI_r m 124 i
    have c := hk i (by omega)
    obtain ⟨g', e⟩ := ih (i + 1) g (by omega) (by omega) hk
    have e' : fX13_ask_15 g (Zi f) (Zi t) s (Zi ((i : Int) + 1)) m = fX13_ask_15 (g' + 1) (Zi f) (Zi t) s (Zi (vI m 98 32)) m := e
    refine ⟨g', ?_⟩
    rw [← e']
    by_cases c1 : vI m 123 i = f
    · have c2 : ¬ vI m 124 i = t := fun z => c ⟨c1, z⟩
      simp (disch := omega) only [fX13_ask_15, fX13_ask_33, qbI_s, qbL_s, qbV_s, qbR_s, qbR_n, qbN_s, qbN_n, qbIX_s, qbIX_n, qbVX_s, qbVX_n, cond_true, cond_false, cond_dec, jadd, jsub, jmul, jneg, li_0, li_1, li_2, li_3, li_4, li_5, li_6, li_7, li_8, li_9, li_10, li_14, li_15, li_16, li_19, li_20, li_24, li_30, li_31, li_32, li_39, li_40, li_48, li_57, li_59, li_60, li_63, li_65, li_80, li_81, li_90, li_97, li_99, li_100, li_122, li_126, li_127, li_150, li_160, li_200, li_225, li_255, li_400, li_799, li_800, li_999, li_2400, li_3239, li_3240, li_1048575, li_1431655765, li_858993459, li_252645135, eqb_j, ltb_j, leb_j, inb_j, ix_j, ix_n, nz_b, nz_0, nz_1, eqb_b, bnot, vI_ne, vI_eq, gIL, gLI, gIR, gRI, gLR, gRL, Int.reduceLT, Int.reduceLE, Int.reduceEq, Int.reduceAdd, Int.reduceSub, Int.reduceMul, Int.reduceNeg, Int.reduceToNat, Nat.reduceEqDiff, reduceIte, if_neg, if_pos, gI_ne, gIv 98, gIv 123, gIv 124, c1]
    · simp (disch := omega) only [fX13_ask_15, fX13_ask_33, qbI_s, qbL_s, qbV_s, qbR_s, qbR_n, qbN_s, qbN_n, qbIX_s, qbIX_n, qbVX_s, qbVX_n, cond_true, cond_false, cond_dec, jadd, jsub, jmul, jneg, li_0, li_1, li_2, li_3, li_4, li_5, li_6, li_7, li_8, li_9, li_10, li_14, li_15, li_16, li_19, li_20, li_24, li_30, li_31, li_32, li_39, li_40, li_48, li_57, li_59, li_60, li_63, li_65, li_80, li_81, li_90, li_97, li_99, li_100, li_122, li_126, li_127, li_150, li_160, li_200, li_225, li_255, li_400, li_799, li_800, li_999, li_2400, li_3239, li_3240, li_1048575, li_1431655765, li_858993459, li_252645135, eqb_j, ltb_j, leb_j, inb_j, ix_j, ix_n, nz_b, nz_0, nz_1, eqb_b, bnot, vI_ne, vI_eq, gIL, gLI, gIR, gRI, gLR, gRL, Int.reduceLT, Int.reduceLE, Int.reduceEq, Int.reduceAdd, Int.reduceSub, Int.reduceMul, Int.reduceNeg, Int.reduceToNat, Nat.reduceEqDiff, reduceIte, if_neg, if_pos, gI_ne, gIv 98, gIv 123, gIv 124]
noncomputable def askM (m1 : qM) (is : Bool) (f t n : Nat) : qM := sI (sI (sI (sI (sI m1 123 n (Zi f)) 124 n (Zi t)) 126 n (Zi (bI is))) 125 n (Zi (-1))) 98 32 (Zi ((n : Int) + 1))
theorem ask_ref (m1 : qM) (is : Bool) (f t n : Nat) (hn : vI m1 98 32 = n) (h40 : n < 40) (h33 : vI m1 98 33 = 0) (hf : f < 15) (ht : t < 10) (hno : ∀ k : Nat, (k : Int) < vI m1 98 32 → ¬ (vI m1 123 k = f ∧ vI m1 124 k = t)) : fX13_ask (Zi f) (Zi t) (Zi (bI is)) m1 = some (Zi n, askM m1 is f t n) := by
  obtain ⟨g', hg'⟩ := ask_miss m1 f t (Zi (bI is)) (by omega) hf ht (vI m1 98 32).toNat 0 FU (by omega) (by rw [FU_d]; omega) hno
  have hg2 : fX13_ask_15 FU (Zi f) (Zi t) (Zi (bI is)) (Zi 0) m1 = fX13_ask_15 (g' + 1) (Zi f) (Zi t) (Zi (bI is)) (Zi n) m1 := by
    rw [← hn]
    exact hg'
  have j1 : (n : Int) + 1 - 1 = n := by omega
  unfold askM
  rw [fX13_ask_d]
  simp (disch := omega) only [fX13_ask_0, qbI_s, qbL_s, qbV_s, qbR_s, qbR_n, qbN_s, qbN_n, qbIX_s, qbIX_n, qbVX_s, qbVX_n, cond_true, cond_false, cond_dec, jadd, jsub, jmul, jneg, li_0, li_1, li_2, li_3, li_4, li_5, li_6, li_7, li_8, li_9, li_10, li_14, li_15, li_16, li_19, li_20, li_24, li_30, li_31, li_32, li_39, li_40, li_48, li_57, li_59, li_60, li_63, li_65, li_80, li_81, li_90, li_97, li_99, li_100, li_122, li_126, li_127, li_150, li_160, li_200, li_225, li_255, li_400, li_799, li_800, li_999, li_2400, li_3239, li_3240, li_1048575, li_1431655765, li_858993459, li_252645135, eqb_j, ltb_j, leb_j, inb_j, ix_j, ix_n, nz_b, nz_0, nz_1, eqb_b, bnot, vI_ne, vI_eq, gIL, gLI, gIR, gRI, gLR, gRL, Int.reduceLT, Int.reduceLE, Int.reduceEq, Int.reduceAdd, Int.reduceSub, Int.reduceMul, Int.reduceNeg, Int.reduceToNat, Nat.reduceEqDiff, reduceIte, if_neg, if_pos, gI_ne, ll_0, ll_1, ll_3, ll_5, ll_9, ll_10, ll_13, ll_14, ll_19, ll_20, ll_32, ll_60, ll_126, ll_799, ll_1024, ll_1048576, ll_67108864, Zladd, Zlsub, Zlmul, Zlneg, toL, lg_lt, lg_gt, lg_le, gIv 98, fM_s, tM_s, in_s, h33, hg2]
  simp (disch := omega) only [fX13_ask_15, qbI_s, qbL_s, qbV_s, qbR_s, qbR_n, qbN_s, qbN_n, qbIX_s, qbIX_n, qbVX_s, qbVX_n, cond_true, cond_false, cond_dec, jadd, jsub, jmul, jneg, li_0, li_1, li_2, li_3, li_4, li_5, li_6, li_7, li_8, li_9, li_10, li_14, li_15, li_16, li_19, li_20, li_24, li_30, li_31, li_32, li_39, li_40, li_48, li_57, li_59, li_60, li_63, li_65, li_80, li_81, li_90, li_97, li_99, li_100, li_122, li_126, li_127, li_150, li_160, li_200, li_225, li_255, li_400, li_799, li_800, li_999, li_2400, li_3239, li_3240, li_1048575, li_1431655765, li_858993459, li_252645135, eqb_j, ltb_j, leb_j, inb_j, ix_j, ix_n, nz_b, nz_0, nz_1, eqb_b, bnot, vI_ne, vI_eq, gIL, gLI, gIR, gRI, gLR, gRL, Int.reduceLT, Int.reduceLE, Int.reduceEq, Int.reduceAdd, Int.reduceSub, Int.reduceMul, Int.reduceNeg, Int.reduceToNat, Nat.reduceEqDiff, reduceIte, if_neg, if_pos, gI_ne, gIv 98, hn, j1]
theorem ask_new {m m2 : qM} {n f t : Nat} {is : Bool} (hR : R0 m) (hn : vI m 98 32 = n) (h40 : n < 40) (hf : f < 15) (ht : t < 10) (h33 : vI m 98 33 = 0) (hno : ∀ k : Nat, (k : Int) < vI m 98 32 → ¬ (vI m 123 k = f ∧ vI m 124 k = t))
    (q : ∀ c k, ¬ (c = 58 ∧ (k = 11 ∨ k = 12) ∨ 59 ≤ c ∧ c ≤ 63 ∨ 123 ≤ c ∧ c ≤ 126 ∨ c = 98 ∧ k = 32) → gI m2 c k = gI m c k) (g : gR m2 = gR m)
    (w11 : vI m2 58 11 = n + 1) (w12 : vI m2 58 12 = vI m 58 12 + bI is) (w32 : vI m2 98 32 = n + 1)
    (u59 : ∀ k, vI m2 59 k = if k = n then (f : Int) else vI m 59 k) (u60 : ∀ k, vI m2 60 k = if k = n then (t : Int) else vI m 60 k) (u61 : ∀ k, vI m2 61 k = if k = n then bI is else vI m 61 k) (u62 : ∀ k, vI m2 62 k = if k = n then -1 else vI m 62 k)
    (u63 : ∀ k, vI m2 63 k = if k = 10 * f + t then (n : Int) else vI m 63 k)
    (u123 : ∀ k, vI m2 123 k = if k = n then (f : Int) else vI m 123 k) (u124 : ∀ k, vI m2 124 k = if k = n then (t : Int) else vI m 124 k) (u125 : ∀ k, vI m2 125 k = if k = n then -1 else vI m 125 k) (u126 : ∀ k, vI m2 126 k = if k = n then bI is else vI m 126 k) : R0 m2 ∧ EK m m2 := by
  have hR' := hR
  obtain ⟨⟨hT, hRd, hRu, hFo, hHa⟩, ⟨hPt, hPf, hAp, hWk⟩, ⟨hAs, hPa, hCl, hDi, hBi, hCn⟩, ⟨hTe, hBe, hNo, hPo⟩⟩ := hR'
  have v : ∀ c k, ¬ (c = 58 ∧ (k = 11 ∨ k = 12) ∨ 59 ≤ c ∧ c ≤ 63 ∨ 123 ≤ c ∧ c ≤ 126 ∨ c = 98 ∧ k = 32) → vI m2 c k = vI m c k := fun c k hc => vI_of (q c k hc)
  have hA2 : RAsk m2 := by
    obtain ⟨e1, e2, e3, e4⟩ := hAs
    refine ⟨by rw [w11, w32], by rw [w32]; omega, by rw [w32]; omega, fun a ha => ?_⟩
    rw [w32] at ha
    rw [u59, u60, u61, u62, u123, u124, u125, u126]
    by_cases c : a = n
    · have := bI_r is
      simp only [if_pos c]
      exact ⟨⟨trivial, by omega, by omega⟩, ⟨trivial, by omega, by omega⟩, ⟨trivial, by omega⟩, ⟨trivial, by omega, by omega⟩⟩
    · simp only [if_neg c]
      exact e4 a (by omega)
  have hP2 : RPair m2 := fun f' t' hf' ht' => by
    obtain ⟨p1, p2⟩ := hPa f' t' hf' ht'
    refine ⟨fun a ha h1 h2 => ?_, fun hx => ?_⟩
    · rw [w32] at ha
      rw [u123] at h1
      rw [u124] at h2
      rw [u63]
      by_cases c : a = n
      · rw [if_pos c] at h1 h2
        rw [if_pos (by omega)]
        omega
      · rw [if_neg c] at h1 h2
        rw [if_neg (fun z => by
          have := hno a (by omega)
          exact this ⟨by omega, by omega⟩)]
        exact p1 a (by omega) h1 h2
    · have h9 := hx n (by rw [w32]; omega)
      rw [u123, u124, if_pos rfl, if_pos rfl] at h9
      rw [u63, if_neg (fun z => h9 ⟨by omega, by omega⟩)]
      refine p2 fun a ha hz => ?_
      have h8 := hx a (by rw [w32]; omega)
      rw [u123, u124, if_neg (by omega), if_neg (by omega)] at h8
      exact h8 hz
  have hC2 : RClash m2 := fun a b ha hb hab h1 h2 => by
    rw [w32] at ha hb
    rw [u125] at h1
    rw [u125, u125] at h2
    have ca : ¬ a = n := fun z => by
      rw [if_pos z] at h1
      exact h1 rfl
    rw [if_neg ca] at h1 h2
    have cb : ¬ b = n := fun z => by
      rw [if_pos z] at h2
      exact h1 h2
    rw [if_neg cb] at h2
    have hz := hCl a b (by omega) (by omega) hab h1 h2
    rw [u123, u123, u124, u124, if_neg ca, if_neg cb, if_neg ca, if_neg cb, v 118 _ (by omega), v 118 _ (by omega)]
    exact hz
  have hD2 : RDiary m2 := fun t' s' ht' hs' => by
    obtain ⟨p1, p2⟩ := hDi t' s' ht' hs'
    rw [v 64 _ (by omega)]
    refine ⟨fun a ha h1 h2 => ?_, fun hx => p2 fun a ha hz => ?_⟩
    · rw [w32] at ha
      rw [u124] at h1
      rw [u125] at h2
      by_cases c : a = n
      · rw [if_pos c] at h2
        omega
      · rw [if_neg c] at h1 h2
        exact p1 a (by omega) h1 h2
    · have h8 := hx a (by rw [w32]; omega)
      rw [u124, u125, if_neg (by omega), if_neg (by omega)] at h8
      exact h8 hz
  have hB2 : RBits m2 := by
    obtain ⟨p1, p2, p3⟩ := hBi
    refine ⟨fun f' s' hf' hs' => ?_, fun t' s' ht' hs' => ?_, fun i s' hi hi2 hs' => ?_⟩
    · rw [q 65 f' (by omega), p1 f' s' hf' hs']
      congr 1
      unfold laidF
      refine propext ⟨fun ⟨a, a1, a2, a3⟩ => ⟨a, by rw [w32]; omega, by rw [u123, if_neg (by omega)]; exact a2, by rw [u125, if_neg (by omega)]; exact a3⟩, fun ⟨a, a1, a2, a3⟩ => ?_⟩
      rw [w32] at a1
      rw [u123] at a2
      rw [u125] at a3
      by_cases c : a = n
      · rw [if_pos c] at a3
        omega
      · rw [if_neg c] at a2 a3
        exact ⟨a, by omega, a2, a3⟩
    · rw [q 66 t' (by omega), p2 t' s' ht' hs']
      congr 1
      unfold laidT
      refine propext ⟨fun ⟨a, a1, a2, a3⟩ => ⟨a, by rw [w32]; omega, by rw [u124, if_neg (by omega)]; exact a2, by rw [u125, if_neg (by omega)]; exact a3⟩, fun ⟨a, a1, a2, a3⟩ => ?_⟩
      rw [w32] at a1
      rw [u124] at a2
      rw [u125] at a3
      by_cases c : a = n
      · rw [if_pos c] at a3
        omega
      · rw [if_neg c] at a2 a3
        exact ⟨a, by omega, a2, a3⟩
    · rw [q 67 i (by omega), p3 i s' hi hi2 hs']
      congr 1
      unfold laidI
      refine propext ⟨fun ⟨a, a1, a2, a3⟩ => ⟨a, by rw [w32]; omega, by rw [u123, if_neg (by omega), v 118 _ (by omega)]; exact a2, by rw [u125, if_neg (by omega)]; exact a3⟩, fun ⟨a, a1, a2, a3⟩ => ?_⟩
      rw [w32] at a1
      rw [u125] at a3
      by_cases c : a = n
      · rw [if_pos c] at a3
        omega
      · rw [u123, if_neg c, v 118 _ (by omega)] at a2
        rw [if_neg c] at a3
        exact ⟨a, by omega, a2, a3⟩
  have hN2 : RCnt m2 := by
    obtain ⟨k1, k2, k3, k4, k5⟩ := hCn
    have en : (vI m 98 32).toNat = n := by omega
    have en2 : (vI m2 98 32).toNat = n + 1 := by omega
    rw [en] at k1 k2 k3 k5
    unfold RCnt
    rw [en2]
    have ld : ∀ a, a < n → isLd (vI m2) a = isLd (vI m) a := fun a ha => by
      unfold isLd
      rw [u125, if_neg (by omega)]
    have ldn : isLd (vI m2) n = false := by
      unfold isLd
      rw [u125, if_pos rfl]
      rfl
    refine ⟨?_, ?_, ?_, ?_, ?_⟩
    · have cg : fb_ct (fun a => decide (vI m2 126 a = 1)) n = fb_ct (fun a => decide (vI m 126 a = 1)) n := fb_ct_cong fun a ha => by rw [u126, if_neg (by omega)]
      rw [w12, k1, fb_ct_succ, cg, u126, if_pos rfl]
      cases is
      · rw [if_neg (by decide)]
        simp [bI]
      · rw [if_pos (by decide)]
        simp [bI]
    · have cg : fb_ct (fun a => isLd (vI m2) a) n = fb_ct (fun a => isLd (vI m) a) n := fb_ct_cong fun a ha => ld a ha
      rw [v 58 13 (by omega), k2, fb_ct_succ, cg, ldn]
      rfl
    · have cg : fb_ct (fun a => isLd (vI m2) a && decide (vI m2 126 a = 1)) n = fb_ct (fun a => isLd (vI m) a && decide (vI m 126 a = 1)) n := fb_ct_cong fun a ha => by rw [ld a ha, u126, if_neg (by omega)]
      rw [v 58 14 (by omega), k3, fb_ct_succ, cg, ldn]
      rfl
    · have cg : fb_sm (fun f => gapN (gI m2 65 f)) 15 = fb_sm (fun f => gapN (gI m 65 f)) 15 := fb_sm_cong fun j hj => by rw [q 65 j (by omega)]
      rw [v 58 15 (by omega), k4, cg]
    · have cg : fb_si (fun a => ptV (vI m2) a) n = fb_si (fun a => ptV (vI m) a) n := fb_si_cong fun a ha => by
        have hna : ¬ a = n := by omega
        unfold ptV
        rw [u125, u123, if_neg hna, if_neg hna, v 119 _ (by omega), v 120 _ (by omega), v 121 _ (by omega)]
      have : ptV (vI m2) n = 0 := by
        unfold ptV
        rw [u125, if_pos rfl]
        exact if_neg (fun z => z.1 rfl)
      rw [v 58 16 (by omega), k5, fb_si_succ, cg, this, Int.add_zero]
  have h52 := (hBe.2.2 h33).1
  have hT2 : RTell m2 := by
    obtain ⟨k1, k2, k3, k4, k5, k6⟩ := hTe
    unfold RTell
    rw [v 98 52 (by omega), v 74 5 (by omega)]
    refine ⟨k1, k2, k3, fun k hk => ?_, fun k hk => by omega, fun j k hj hk => by omega⟩
    rw [v 75 k (by omega), v 76 k (by omega), v 77 k (by omega), v 78 k (by omega), v 79 k (by omega), v 134 k (by omega), v 135 k (by omega), v 136 k (by omega), v 137 k (by omega), v 138 k (by omega)]
    exact k4 k hk
  have hO2 : RNote m2 := by
    obtain ⟨k1, k2, k3, k4, k5, k6, k7, k8⟩ := hNo
    refine ⟨fun a ha => ?_, fun a ha1 ha2 => ?_, fun k hk => ?_, fun a t' ha ht' => ?_, fun k hk => ?_, ?_, fun i hi => ?_, ?_⟩
    · rw [v 95 a (by omega), v 151 a (by omega)]
      exact k1 a ha
    · rw [v 151 a (by omega)]
      exact k2 a (by omega) ha2
    · rw [v 94 k (by omega), v 153 k (by omega)]
      exact k3 k hk
    · rw [q 96 a (by omega), v 154 _ (by omega)]
      exact k4 a t' ha ht'
    · rw [v 154 k (by omega)]
      exact k5 k hk
    · rw [v 93 5 (by omega), v 98 75 (by omega)]
      exact k6
    · rw [q 97 i (by omega), q 152 i (by omega)]
      exact k7 i hi
    · have cg : fb_ct (fun a => decide (0 < vI m2 151 a)) 40 = fb_ct (fun a => decide (0 < vI m 151 a)) 40 := fb_ct_cong fun a ha => by rw [v 151 a (by omega)]
      rw [v 93 6 (by omega), k8, cg]
  refine ⟨⟨⟨hT.mono (fun c k hc => q c k (by omega)), hRd.mono (fun c k hc => q c k (by omega)), hRu.mono (fun c k hc => q c k (by omega)), hFo.mono (fun c k hc => q c k (by omega)), hHa.mono (fun c k hc => q c k (by omega))⟩, ⟨hPt.mono (fun c k hc => q c k (by omega)), hPf.mono (fun c k hc => q c k (by omega)), hAp.mono (fun c k hc => q c k (by omega)), hWk.mono (fun c k hc => q c k (by omega))⟩, ⟨(hA2), (hP2), (hC2), (hD2), (hB2), (hN2)⟩, ⟨(hT2), hBe.mono (fun c k hc => q c k (by omega)), (hO2), hPo.mono (fun c k hc => q c k (by omega)) g⟩⟩, Or.inl fun j hj => ?_⟩
  rw [v 83 j (by omega)]
  exact (hBe.2.2 h33).2 j hj
theorem op_ask (m : qM) (hR : R0 m) (a b : Int) (is : Bool) (ha : -2147483648 ≤ a ∧ a < 2147483648) (hb : -2147483648 ≤ b ∧ b < 2147483648) : QOp m (fX11_ask (Zi a) (Zi b) (Zi (bI is))) (fX13_ask (Zi a) (Zi b) (Zi (bI is))) := by
  have hR' := hR
  obtain ⟨⟨hT, hRd, hRu, hFo, hHa⟩, ⟨hPt, hPf, hAp, hWk⟩, ⟨hAs, hPa, hCl, hDi, hBi, hCn⟩, ⟨hTe, hBe, hNo, hPo⟩⟩ := hR'
  obtain ⟨e1, e2, e3, e4⟩ := id hAs
  obtain ⟨w1, w2, w3⟩ := id hBe
  by_cases h1 : 0 ≤ a ∧ a ≤ 14
  · by_cases h2 : 0 ≤ b ∧ b ≤ 9
    · obtain ⟨f, rfl⟩ : ∃ f : Nat, a = f := ⟨a.toNat, by omega⟩
      obtain ⟨t, rfl⟩ : ∃ t : Nat, b = t := ⟨b.toNat, by omega⟩
      have hf : f < 15 := by omega
      have ht : t < 10 := by omega
      have i1 : ((f : Int) * 10 + (t : Int)).toNat = 10 * f + t := by omega
      obtain ⟨p1, p2⟩ := hPa f t hf ht
      by_cases h3 : vI m 98 33 = 0
      · by_cases h4 : ∃ k : Nat, (k : Int) < vI m 98 32 ∧ vI m 123 k = f ∧ vI m 124 k = t
        · have hrun := ask_run m f t (Zi (bI is)) ⟨e2, e3⟩ hf ht (vI m 98 32).toNat 0 FU (by omega) (by rw [FU_d]; omega) (by
            obtain ⟨k, k1, k2, k3⟩ := h4
            exact ⟨k, by omega, k1, k2, k3⟩)
          have hrun' : fX13_ask_15 FU (Zi f) (Zi t) (Zi (bI is)) (Zi 0) m = some (Zi (-4), m) := hrun
          obtain ⟨k, k1, k2, k3⟩ := h4
          have h63 := p1 k k1 k2 k3
          refine QOp.same (x := Zi (-4)) hR ?_ ?_
          · rw [fX11_ask_d]
            simp (disch := omega) only [fX11_ask_0, fX11_ask_18, fX4_askOf_d, fX4_askOf_0, qbI_s, qbL_s, qbV_s, qbR_s, qbR_n, qbN_s, qbN_n, qbIX_s, qbIX_n, qbVX_s, qbVX_n, cond_true, cond_false, cond_dec, jadd, jsub, jmul, jneg, li_0, li_1, li_2, li_3, li_4, li_5, li_6, li_7, li_8, li_9, li_10, li_14, li_15, li_16, li_19, li_20, li_24, li_30, li_31, li_32, li_39, li_40, li_48, li_57, li_59, li_60, li_63, li_65, li_80, li_81, li_90, li_97, li_99, li_100, li_122, li_126, li_127, li_150, li_160, li_200, li_225, li_255, li_400, li_799, li_800, li_999, li_2400, li_3239, li_3240, li_1048575, li_1431655765, li_858993459, li_252645135, eqb_j, ltb_j, leb_j, inb_j, ix_j, ix_n, nz_b, nz_0, nz_1, eqb_b, bnot, vI_ne, vI_eq, gIL, gLI, gIR, gRI, gLR, gRL, Int.reduceLT, Int.reduceLE, Int.reduceEq, Int.reduceAdd, Int.reduceSub, Int.reduceMul, Int.reduceNeg, Int.reduceToNat, Nat.reduceEqDiff, reduceIte, if_neg, if_pos, gI_ne, gIv 0, gIv 63, fR_s, tR_s, w1, h3, i1, h63]
          · rw [fX13_ask_d]
            simp (disch := omega) only [fX13_ask_0, qbI_s, qbL_s, qbV_s, qbR_s, qbR_n, qbN_s, qbN_n, qbIX_s, qbIX_n, qbVX_s, qbVX_n, cond_true, cond_false, cond_dec, jadd, jsub, jmul, jneg, li_0, li_1, li_2, li_3, li_4, li_5, li_6, li_7, li_8, li_9, li_10, li_14, li_15, li_16, li_19, li_20, li_24, li_30, li_31, li_32, li_39, li_40, li_48, li_57, li_59, li_60, li_63, li_65, li_80, li_81, li_90, li_97, li_99, li_100, li_122, li_126, li_127, li_150, li_160, li_200, li_225, li_255, li_400, li_799, li_800, li_999, li_2400, li_3239, li_3240, li_1048575, li_1431655765, li_858993459, li_252645135, eqb_j, ltb_j, leb_j, inb_j, ix_j, ix_n, nz_b, nz_0, nz_1, eqb_b, bnot, vI_ne, vI_eq, gIL, gLI, gIR, gRI, gLR, gRL, Int.reduceLT, Int.reduceLE, Int.reduceEq, Int.reduceAdd, Int.reduceSub, Int.reduceMul, Int.reduceNeg, Int.reduceToNat, Nat.reduceEqDiff, reduceIte, if_neg, if_pos, gI_ne, ll_0, ll_1, ll_3, ll_5, ll_9, ll_10, ll_13, ll_14, ll_19, ll_20, ll_32, ll_60, ll_126, ll_799, ll_1024, ll_1048576, ll_67108864, Zladd, Zlsub, Zlmul, Zlneg, toL, lg_lt, lg_gt, lg_le, gIv 98, fM_s, tM_s, in_s, h3, hrun']
        · have hno : ∀ k : Nat, (k : Int) < vI m 98 32 → ¬ (vI m 123 k = f ∧ vI m 124 k = t) := fun k hk z => h4 ⟨k, hk, z⟩
          have h63 := p2 hno
          obtain ⟨n, hn⟩ : ∃ n : Nat, vI m 98 32 = n := ⟨(vI m 98 32).toNat, by omega⟩
          have v11 : vI m 58 11 = n := by omega
          by_cases h5 : n = 40
          · obtain ⟨g', hg'⟩ := ask_miss m f t (Zi (bI is)) ⟨e2, e3⟩ hf ht (vI m 98 32).toNat 0 FU (by omega) (by rw [FU_d]; omega) hno
            have hg2 : fX13_ask_15 FU (Zi f) (Zi t) (Zi (bI is)) (Zi 0) m = fX13_ask_15 (g' + 1) (Zi f) (Zi t) (Zi (bI is)) (Zi n) m := by
              rw [← hn]
              exact hg'
            refine QOp.same (x := Zi (-3)) hR ?_ ?_
            · rw [fX11_ask_d]
              simp (disch := omega) only [fX11_ask_0, fX11_ask_33, fX4_askOf_d, fX4_askOf_0, fX4_asks_d, fX4_asks_0, qbI_s, qbL_s, qbV_s, qbR_s, qbR_n, qbN_s, qbN_n, qbIX_s, qbIX_n, qbVX_s, qbVX_n, cond_true, cond_false, cond_dec, jadd, jsub, jmul, jneg, li_0, li_1, li_2, li_3, li_4, li_5, li_6, li_7, li_8, li_9, li_10, li_14, li_15, li_16, li_19, li_20, li_24, li_30, li_31, li_32, li_39, li_40, li_48, li_57, li_59, li_60, li_63, li_65, li_80, li_81, li_90, li_97, li_99, li_100, li_122, li_126, li_127, li_150, li_160, li_200, li_225, li_255, li_400, li_799, li_800, li_999, li_2400, li_3239, li_3240, li_1048575, li_1431655765, li_858993459, li_252645135, eqb_j, ltb_j, leb_j, inb_j, ix_j, ix_n, nz_b, nz_0, nz_1, eqb_b, bnot, vI_ne, vI_eq, gIL, gLI, gIR, gRI, gLR, gRL, Int.reduceLT, Int.reduceLE, Int.reduceEq, Int.reduceAdd, Int.reduceSub, Int.reduceMul, Int.reduceNeg, Int.reduceToNat, Nat.reduceEqDiff, reduceIte, if_neg, if_pos, gI_ne, gIv 0, gIv 58, gIv 63, fR_s, tR_s, w1, h3, i1, h63, v11]
            · rw [fX13_ask_d]
              simp (disch := omega) only [fX13_ask_0, qbI_s, qbL_s, qbV_s, qbR_s, qbR_n, qbN_s, qbN_n, qbIX_s, qbIX_n, qbVX_s, qbVX_n, cond_true, cond_false, cond_dec, jadd, jsub, jmul, jneg, li_0, li_1, li_2, li_3, li_4, li_5, li_6, li_7, li_8, li_9, li_10, li_14, li_15, li_16, li_19, li_20, li_24, li_30, li_31, li_32, li_39, li_40, li_48, li_57, li_59, li_60, li_63, li_65, li_80, li_81, li_90, li_97, li_99, li_100, li_122, li_126, li_127, li_150, li_160, li_200, li_225, li_255, li_400, li_799, li_800, li_999, li_2400, li_3239, li_3240, li_1048575, li_1431655765, li_858993459, li_252645135, eqb_j, ltb_j, leb_j, inb_j, ix_j, ix_n, nz_b, nz_0, nz_1, eqb_b, bnot, vI_ne, vI_eq, gIL, gLI, gIR, gRI, gLR, gRL, Int.reduceLT, Int.reduceLE, Int.reduceEq, Int.reduceAdd, Int.reduceSub, Int.reduceMul, Int.reduceNeg, Int.reduceToNat, Nat.reduceEqDiff, reduceIte, if_neg, if_pos, gI_ne, ll_0, ll_1, ll_3, ll_5, ll_9, ll_10, ll_13, ll_14, ll_19, ll_20, ll_32, ll_60, ll_126, ll_799, ll_1024, ll_1048576, ll_67108864, Zladd, Zlsub, Zlmul, Zlneg, toL, lg_lt, lg_gt, lg_le, gIv 98, fM_s, tM_s, in_s, h3, hg2]
              simp (disch := omega) only [fX13_ask_15, qbI_s, qbL_s, qbV_s, qbR_s, qbR_n, qbN_s, qbN_n, qbIX_s, qbIX_n, qbVX_s, qbVX_n, cond_true, cond_false, cond_dec, jadd, jsub, jmul, jneg, li_0, li_1, li_2, li_3, li_4, li_5, li_6, li_7, li_8, li_9, li_10, li_14, li_15, li_16, li_19, li_20, li_24, li_30, li_31, li_32, li_39, li_40, li_48, li_57, li_59, li_60, li_63, li_65, li_80, li_81, li_90, li_97, li_99, li_100, li_122, li_126, li_127, li_150, li_160, li_200, li_225, li_255, li_400, li_799, li_800, li_999, li_2400, li_3239, li_3240, li_1048575, li_1431655765, li_858993459, li_252645135, eqb_j, ltb_j, leb_j, inb_j, ix_j, ix_n, nz_b, nz_0, nz_1, eqb_b, bnot, vI_ne, vI_eq, gIL, gLI, gIR, gRI, gLR, gRL, Int.reduceLT, Int.reduceLE, Int.reduceEq, Int.reduceAdd, Int.reduceSub, Int.reduceMul, Int.reduceNeg, Int.reduceToNat, Nat.reduceEqDiff, reduceIte, if_neg, if_pos, gI_ne, gIv 98, hn]
          · have h40 : n < 40 := by omega
            have b12 : 0 ≤ vI m 58 12 ∧ vI m 58 12 ≤ 40 := by
              have k1 := hCn.1
              have := fb_ct_le (fun a => decide (vI m 126 a = 1)) (vI m 98 32).toNat
              omega
            cases is
            · obtain ⟨m1, hm1⟩ : ∃ w, w = sI (sI (sI (sI (sI (sI m 58 11 (Zi ((n : Int) + 1))) 59 n (Zi f)) 60 n (Zi t)) 61 n (Zi (bI false))) 62 n (Zi (-1))) 63 (10 * f + t) (Zi n) := ⟨_, rfl⟩
              have s1 : ∀ c k, ¬ (58 ≤ c ∧ c ≤ 63) → vI m1 c k = vI m c k := fun c k hc => by
                rw [hm1]
                simp (disch := omega) only [qbI_s, qbL_s, qbV_s, qbR_s, qbR_n, qbN_s, qbN_n, qbIX_s, qbIX_n, qbVX_s, qbVX_n, cond_true, cond_false, cond_dec, jadd, jsub, jmul, jneg, li_0, li_1, li_2, li_3, li_4, li_5, li_6, li_7, li_8, li_9, li_10, li_14, li_15, li_16, li_19, li_20, li_24, li_30, li_31, li_32, li_39, li_40, li_48, li_57, li_59, li_60, li_63, li_65, li_80, li_81, li_90, li_97, li_99, li_100, li_122, li_126, li_127, li_150, li_160, li_200, li_225, li_255, li_400, li_799, li_800, li_999, li_2400, li_3239, li_3240, li_1048575, li_1431655765, li_858993459, li_252645135, eqb_j, ltb_j, leb_j, inb_j, ix_j, ix_n, nz_b, nz_0, nz_1, eqb_b, bnot, vI_ne, vI_eq, gIL, gLI, gIR, gRI, gLR, gRL, Int.reduceLT, Int.reduceLE, Int.reduceEq, Int.reduceAdd, Int.reduceSub, Int.reduceMul, Int.reduceNeg, Int.reduceToNat, Nat.reduceEqDiff, reduceIte, if_neg, if_pos, gI_ne]
              have hr := ask_ref m1 false f t n ((s1 98 32 (by omega)).trans hn) h40 ((s1 98 33 (by omega)).trans h3) hf ht (fun k hk => by
                rw [s1 98 32 (by omega)] at hk
                rw [s1 123 k (by omega), s1 124 k (by omega)]
                exact hno k hk)
              have hz := ask_new (m := m) (m2 := askM m1 false f t n) (is := false) hR hn h40 hf ht h3 hno (fun c k hc => by
                unfold askM
                rw [hm1]
                simp only [gI_sI]
                repeat rw [if_neg (by omega)]) (by unfold askM; rw [hm1]; simp only [gR_sI]) (by unfold askM; rw [hm1]; simp (disch := omega) only [qbI_s, qbL_s, qbV_s, qbR_s, qbR_n, qbN_s, qbN_n, qbIX_s, qbIX_n, qbVX_s, qbVX_n, cond_true, cond_false, cond_dec, jadd, jsub, jmul, jneg, li_0, li_1, li_2, li_3, li_4, li_5, li_6, li_7, li_8, li_9, li_10, li_14, li_15, li_16, li_19, li_20, li_24, li_30, li_31, li_32, li_39, li_40, li_48, li_57, li_59, li_60, li_63, li_65, li_80, li_81, li_90, li_97, li_99, li_100, li_122, li_126, li_127, li_150, li_160, li_200, li_225, li_255, li_400, li_799, li_800, li_999, li_2400, li_3239, li_3240, li_1048575, li_1431655765, li_858993459, li_252645135, eqb_j, ltb_j, leb_j, inb_j, ix_j, ix_n, nz_b, nz_0, nz_1, eqb_b, bnot, vI_ne, vI_eq, gIL, gLI, gIR, gRI, gLR, gRL, Int.reduceLT, Int.reduceLE, Int.reduceEq, Int.reduceAdd, Int.reduceSub, Int.reduceMul, Int.reduceNeg, Int.reduceToNat, Nat.reduceEqDiff, reduceIte, if_neg, if_pos, gI_ne]) (by unfold askM; rw [hm1]; simp (disch := omega) only [qbI_s, qbL_s, qbV_s, qbR_s, qbR_n, qbN_s, qbN_n, qbIX_s, qbIX_n, qbVX_s, qbVX_n, cond_true, cond_false, cond_dec, jadd, jsub, jmul, jneg, li_0, li_1, li_2, li_3, li_4, li_5, li_6, li_7, li_8, li_9, li_10, li_14, li_15, li_16, li_19, li_20, li_24, li_30, li_31, li_32, li_39, li_40, li_48, li_57, li_59, li_60, li_63, li_65, li_80, li_81, li_90, li_97, li_99, li_100, li_122, li_126, li_127, li_150, li_160, li_200, li_225, li_255, li_400, li_799, li_800, li_999, li_2400, li_3239, li_3240, li_1048575, li_1431655765, li_858993459, li_252645135, eqb_j, ltb_j, leb_j, inb_j, ix_j, ix_n, nz_b, nz_0, nz_1, eqb_b, bnot, vI_ne, vI_eq, gIL, gLI, gIR, gRI, gLR, gRL, Int.reduceLT, Int.reduceLE, Int.reduceEq, Int.reduceAdd, Int.reduceSub, Int.reduceMul, Int.reduceNeg, Int.reduceToNat, Nat.reduceEqDiff, reduceIte, if_neg, if_pos, gI_ne, show bI false = 0 from rfl, Int.add_zero]) (by unfold askM; rw [hm1]; simp (disch := omega) only [qbI_s, qbL_s, qbV_s, qbR_s, qbR_n, qbN_s, qbN_n, qbIX_s, qbIX_n, qbVX_s, qbVX_n, cond_true, cond_false, cond_dec, jadd, jsub, jmul, jneg, li_0, li_1, li_2, li_3, li_4, li_5, li_6, li_7, li_8, li_9, li_10, li_14, li_15, li_16, li_19, li_20, li_24, li_30, li_31, li_32, li_39, li_40, li_48, li_57, li_59, li_60, li_63, li_65, li_80, li_81, li_90, li_97, li_99, li_100, li_122, li_126, li_127, li_150, li_160, li_200, li_225, li_255, li_400, li_799, li_800, li_999, li_2400, li_3239, li_3240, li_1048575, li_1431655765, li_858993459, li_252645135, eqb_j, ltb_j, leb_j, inb_j, ix_j, ix_n, nz_b, nz_0, nz_1, eqb_b, bnot, vI_ne, vI_eq, gIL, gLI, gIR, gRI, gLR, gRL, Int.reduceLT, Int.reduceLE, Int.reduceEq, Int.reduceAdd, Int.reduceSub, Int.reduceMul, Int.reduceNeg, Int.reduceToNat, Nat.reduceEqDiff, reduceIte, if_neg, if_pos, gI_ne]) (fun k => by unfold askM; rw [hm1]; simp (disch := omega) only [qbI_s, qbL_s, qbV_s, qbR_s, qbR_n, qbN_s, qbN_n, qbIX_s, qbIX_n, qbVX_s, qbVX_n, cond_true, cond_false, cond_dec, jadd, jsub, jmul, jneg, li_0, li_1, li_2, li_3, li_4, li_5, li_6, li_7, li_8, li_9, li_10, li_14, li_15, li_16, li_19, li_20, li_24, li_30, li_31, li_32, li_39, li_40, li_48, li_57, li_59, li_60, li_63, li_65, li_80, li_81, li_90, li_97, li_99, li_100, li_122, li_126, li_127, li_150, li_160, li_200, li_225, li_255, li_400, li_799, li_800, li_999, li_2400, li_3239, li_3240, li_1048575, li_1431655765, li_858993459, li_252645135, eqb_j, ltb_j, leb_j, inb_j, ix_j, ix_n, nz_b, nz_0, nz_1, eqb_b, bnot, vI_ne, vI_eq, gIL, gLI, gIR, gRI, gLR, gRL, Int.reduceLT, Int.reduceLE, Int.reduceEq, Int.reduceAdd, Int.reduceSub, Int.reduceMul, Int.reduceNeg, Int.reduceToNat, Nat.reduceEqDiff, reduceIte, if_neg, if_pos, gI_ne]) (fun k => by unfold askM; rw [hm1]; simp (disch := omega) only [qbI_s, qbL_s, qbV_s, qbR_s, qbR_n, qbN_s, qbN_n, qbIX_s, qbIX_n, qbVX_s, qbVX_n, cond_true, cond_false, cond_dec, jadd, jsub, jmul, jneg, li_0, li_1, li_2, li_3, li_4, li_5, li_6, li_7, li_8, li_9, li_10, li_14, li_15, li_16, li_19, li_20, li_24, li_30, li_31, li_32, li_39, li_40, li_48, li_57, li_59, li_60, li_63, li_65, li_80, li_81, li_90, li_97, li_99, li_100, li_122, li_126, li_127, li_150, li_160, li_200, li_225, li_255, li_400, li_799, li_800, li_999, li_2400, li_3239, li_3240, li_1048575, li_1431655765, li_858993459, li_252645135, eqb_j, ltb_j, leb_j, inb_j, ix_j, ix_n, nz_b, nz_0, nz_1, eqb_b, bnot, vI_ne, vI_eq, gIL, gLI, gIR, gRI, gLR, gRL, Int.reduceLT, Int.reduceLE, Int.reduceEq, Int.reduceAdd, Int.reduceSub, Int.reduceMul, Int.reduceNeg, Int.reduceToNat, Nat.reduceEqDiff, reduceIte, if_neg, if_pos, gI_ne]) (fun k => by unfold askM; rw [hm1]; simp (disch := omega) only [qbI_s, qbL_s, qbV_s, qbR_s, qbR_n, qbN_s, qbN_n, qbIX_s, qbIX_n, qbVX_s, qbVX_n, cond_true, cond_false, cond_dec, jadd, jsub, jmul, jneg, li_0, li_1, li_2, li_3, li_4, li_5, li_6, li_7, li_8, li_9, li_10, li_14, li_15, li_16, li_19, li_20, li_24, li_30, li_31, li_32, li_39, li_40, li_48, li_57, li_59, li_60, li_63, li_65, li_80, li_81, li_90, li_97, li_99, li_100, li_122, li_126, li_127, li_150, li_160, li_200, li_225, li_255, li_400, li_799, li_800, li_999, li_2400, li_3239, li_3240, li_1048575, li_1431655765, li_858993459, li_252645135, eqb_j, ltb_j, leb_j, inb_j, ix_j, ix_n, nz_b, nz_0, nz_1, eqb_b, bnot, vI_ne, vI_eq, gIL, gLI, gIR, gRI, gLR, gRL, Int.reduceLT, Int.reduceLE, Int.reduceEq, Int.reduceAdd, Int.reduceSub, Int.reduceMul, Int.reduceNeg, Int.reduceToNat, Nat.reduceEqDiff, reduceIte, if_neg, if_pos, gI_ne, show bI false = 0 from rfl]) (fun k => by unfold askM; rw [hm1]; simp (disch := omega) only [qbI_s, qbL_s, qbV_s, qbR_s, qbR_n, qbN_s, qbN_n, qbIX_s, qbIX_n, qbVX_s, qbVX_n, cond_true, cond_false, cond_dec, jadd, jsub, jmul, jneg, li_0, li_1, li_2, li_3, li_4, li_5, li_6, li_7, li_8, li_9, li_10, li_14, li_15, li_16, li_19, li_20, li_24, li_30, li_31, li_32, li_39, li_40, li_48, li_57, li_59, li_60, li_63, li_65, li_80, li_81, li_90, li_97, li_99, li_100, li_122, li_126, li_127, li_150, li_160, li_200, li_225, li_255, li_400, li_799, li_800, li_999, li_2400, li_3239, li_3240, li_1048575, li_1431655765, li_858993459, li_252645135, eqb_j, ltb_j, leb_j, inb_j, ix_j, ix_n, nz_b, nz_0, nz_1, eqb_b, bnot, vI_ne, vI_eq, gIL, gLI, gIR, gRI, gLR, gRL, Int.reduceLT, Int.reduceLE, Int.reduceEq, Int.reduceAdd, Int.reduceSub, Int.reduceMul, Int.reduceNeg, Int.reduceToNat, Nat.reduceEqDiff, reduceIte, if_neg, if_pos, gI_ne]) (fun k => by unfold askM; rw [hm1]; simp (disch := omega) only [qbI_s, qbL_s, qbV_s, qbR_s, qbR_n, qbN_s, qbN_n, qbIX_s, qbIX_n, qbVX_s, qbVX_n, cond_true, cond_false, cond_dec, jadd, jsub, jmul, jneg, li_0, li_1, li_2, li_3, li_4, li_5, li_6, li_7, li_8, li_9, li_10, li_14, li_15, li_16, li_19, li_20, li_24, li_30, li_31, li_32, li_39, li_40, li_48, li_57, li_59, li_60, li_63, li_65, li_80, li_81, li_90, li_97, li_99, li_100, li_122, li_126, li_127, li_150, li_160, li_200, li_225, li_255, li_400, li_799, li_800, li_999, li_2400, li_3239, li_3240, li_1048575, li_1431655765, li_858993459, li_252645135, eqb_j, ltb_j, leb_j, inb_j, ix_j, ix_n, nz_b, nz_0, nz_1, eqb_b, bnot, vI_ne, vI_eq, gIL, gLI, gIR, gRI, gLR, gRL, Int.reduceLT, Int.reduceLE, Int.reduceEq, Int.reduceAdd, Int.reduceSub, Int.reduceMul, Int.reduceNeg, Int.reduceToNat, Nat.reduceEqDiff, reduceIte, if_neg, if_pos, gI_ne]) (fun k => by unfold askM; rw [hm1]; simp (disch := omega) only [qbI_s, qbL_s, qbV_s, qbR_s, qbR_n, qbN_s, qbN_n, qbIX_s, qbIX_n, qbVX_s, qbVX_n, cond_true, cond_false, cond_dec, jadd, jsub, jmul, jneg, li_0, li_1, li_2, li_3, li_4, li_5, li_6, li_7, li_8, li_9, li_10, li_14, li_15, li_16, li_19, li_20, li_24, li_30, li_31, li_32, li_39, li_40, li_48, li_57, li_59, li_60, li_63, li_65, li_80, li_81, li_90, li_97, li_99, li_100, li_122, li_126, li_127, li_150, li_160, li_200, li_225, li_255, li_400, li_799, li_800, li_999, li_2400, li_3239, li_3240, li_1048575, li_1431655765, li_858993459, li_252645135, eqb_j, ltb_j, leb_j, inb_j, ix_j, ix_n, nz_b, nz_0, nz_1, eqb_b, bnot, vI_ne, vI_eq, gIL, gLI, gIR, gRI, gLR, gRL, Int.reduceLT, Int.reduceLE, Int.reduceEq, Int.reduceAdd, Int.reduceSub, Int.reduceMul, Int.reduceNeg, Int.reduceToNat, Nat.reduceEqDiff, reduceIte, if_neg, if_pos, gI_ne]) (fun k => by unfold askM; rw [hm1]; simp (disch := omega) only [qbI_s, qbL_s, qbV_s, qbR_s, qbR_n, qbN_s, qbN_n, qbIX_s, qbIX_n, qbVX_s, qbVX_n, cond_true, cond_false, cond_dec, jadd, jsub, jmul, jneg, li_0, li_1, li_2, li_3, li_4, li_5, li_6, li_7, li_8, li_9, li_10, li_14, li_15, li_16, li_19, li_20, li_24, li_30, li_31, li_32, li_39, li_40, li_48, li_57, li_59, li_60, li_63, li_65, li_80, li_81, li_90, li_97, li_99, li_100, li_122, li_126, li_127, li_150, li_160, li_200, li_225, li_255, li_400, li_799, li_800, li_999, li_2400, li_3239, li_3240, li_1048575, li_1431655765, li_858993459, li_252645135, eqb_j, ltb_j, leb_j, inb_j, ix_j, ix_n, nz_b, nz_0, nz_1, eqb_b, bnot, vI_ne, vI_eq, gIL, gLI, gIR, gRI, gLR, gRL, Int.reduceLT, Int.reduceLE, Int.reduceEq, Int.reduceAdd, Int.reduceSub, Int.reduceMul, Int.reduceNeg, Int.reduceToNat, Nat.reduceEqDiff, reduceIte, if_neg, if_pos, gI_ne]) (fun k => by unfold askM; rw [hm1]; simp (disch := omega) only [qbI_s, qbL_s, qbV_s, qbR_s, qbR_n, qbN_s, qbN_n, qbIX_s, qbIX_n, qbVX_s, qbVX_n, cond_true, cond_false, cond_dec, jadd, jsub, jmul, jneg, li_0, li_1, li_2, li_3, li_4, li_5, li_6, li_7, li_8, li_9, li_10, li_14, li_15, li_16, li_19, li_20, li_24, li_30, li_31, li_32, li_39, li_40, li_48, li_57, li_59, li_60, li_63, li_65, li_80, li_81, li_90, li_97, li_99, li_100, li_122, li_126, li_127, li_150, li_160, li_200, li_225, li_255, li_400, li_799, li_800, li_999, li_2400, li_3239, li_3240, li_1048575, li_1431655765, li_858993459, li_252645135, eqb_j, ltb_j, leb_j, inb_j, ix_j, ix_n, nz_b, nz_0, nz_1, eqb_b, bnot, vI_ne, vI_eq, gIL, gLI, gIR, gRI, gLR, gRL, Int.reduceLT, Int.reduceLE, Int.reduceEq, Int.reduceAdd, Int.reduceSub, Int.reduceMul, Int.reduceNeg, Int.reduceToNat, Nat.reduceEqDiff, reduceIte, if_neg, if_pos, gI_ne]) (fun k => by unfold askM; rw [hm1]; simp (disch := omega) only [qbI_s, qbL_s, qbV_s, qbR_s, qbR_n, qbN_s, qbN_n, qbIX_s, qbIX_n, qbVX_s, qbVX_n, cond_true, cond_false, cond_dec, jadd, jsub, jmul, jneg, li_0, li_1, li_2, li_3, li_4, li_5, li_6, li_7, li_8, li_9, li_10, li_14, li_15, li_16, li_19, li_20, li_24, li_30, li_31, li_32, li_39, li_40, li_48, li_57, li_59, li_60, li_63, li_65, li_80, li_81, li_90, li_97, li_99, li_100, li_122, li_126, li_127, li_150, li_160, li_200, li_225, li_255, li_400, li_799, li_800, li_999, li_2400, li_3239, li_3240, li_1048575, li_1431655765, li_858993459, li_252645135, eqb_j, ltb_j, leb_j, inb_j, ix_j, ix_n, nz_b, nz_0, nz_1, eqb_b, bnot, vI_ne, vI_eq, gIL, gLI, gIR, gRI, gLR, gRL, Int.reduceLT, Int.reduceLE, Int.reduceEq, Int.reduceAdd, Int.reduceSub, Int.reduceMul, Int.reduceNeg, Int.reduceToNat, Nat.reduceEqDiff, reduceIte, if_neg, if_pos, gI_ne, show bI false = 0 from rfl]) 
              refine ⟨Zi n, m1, askM m1 false f t n, ?_, hr, hz.1, hz.2⟩
              rw [fX11_ask_d, hm1]
              simp (disch := omega) only [fX11_ask_0, fX11_ask_33, fX4_askOf_d, fX4_askOf_0, fX4_asks_d, fX4_asks_0, fX4_addAsk_d, fX4_addAsk_0, fX4_addAsk_52, qbI_s, qbL_s, qbV_s, qbR_s, qbR_n, qbN_s, qbN_n, qbIX_s, qbIX_n, qbVX_s, qbVX_n, cond_true, cond_false, cond_dec, jadd, jsub, jmul, jneg, li_0, li_1, li_2, li_3, li_4, li_5, li_6, li_7, li_8, li_9, li_10, li_14, li_15, li_16, li_19, li_20, li_24, li_30, li_31, li_32, li_39, li_40, li_48, li_57, li_59, li_60, li_63, li_65, li_80, li_81, li_90, li_97, li_99, li_100, li_122, li_126, li_127, li_150, li_160, li_200, li_225, li_255, li_400, li_799, li_800, li_999, li_2400, li_3239, li_3240, li_1048575, li_1431655765, li_858993459, li_252645135, eqb_j, ltb_j, leb_j, inb_j, ix_j, ix_n, nz_b, nz_0, nz_1, eqb_b, bnot, vI_ne, vI_eq, gIL, gLI, gIR, gRI, gLR, gRL, Int.reduceLT, Int.reduceLE, Int.reduceEq, Int.reduceAdd, Int.reduceSub, Int.reduceMul, Int.reduceNeg, Int.reduceToNat, Nat.reduceEqDiff, reduceIte, if_neg, if_pos, gI_ne, gIv 0, gIv 58, gIv 63, fR_s, tR_s, w1, h3, i1, h63, v11]
            · obtain ⟨m1, hm1⟩ : ∃ w, w = sI (sI (sI (sI (sI (sI (sI m 58 11 (Zi ((n : Int) + 1))) 59 n (Zi f)) 60 n (Zi t)) 61 n (Zi (bI true))) 62 n (Zi (-1))) 63 (10 * f + t) (Zi n)) 58 12 (Zi (vI m 58 12 + 1)) := ⟨_, rfl⟩
              have s1 : ∀ c k, ¬ (58 ≤ c ∧ c ≤ 63) → vI m1 c k = vI m c k := fun c k hc => by
                rw [hm1]
                simp (disch := omega) only [qbI_s, qbL_s, qbV_s, qbR_s, qbR_n, qbN_s, qbN_n, qbIX_s, qbIX_n, qbVX_s, qbVX_n, cond_true, cond_false, cond_dec, jadd, jsub, jmul, jneg, li_0, li_1, li_2, li_3, li_4, li_5, li_6, li_7, li_8, li_9, li_10, li_14, li_15, li_16, li_19, li_20, li_24, li_30, li_31, li_32, li_39, li_40, li_48, li_57, li_59, li_60, li_63, li_65, li_80, li_81, li_90, li_97, li_99, li_100, li_122, li_126, li_127, li_150, li_160, li_200, li_225, li_255, li_400, li_799, li_800, li_999, li_2400, li_3239, li_3240, li_1048575, li_1431655765, li_858993459, li_252645135, eqb_j, ltb_j, leb_j, inb_j, ix_j, ix_n, nz_b, nz_0, nz_1, eqb_b, bnot, vI_ne, vI_eq, gIL, gLI, gIR, gRI, gLR, gRL, Int.reduceLT, Int.reduceLE, Int.reduceEq, Int.reduceAdd, Int.reduceSub, Int.reduceMul, Int.reduceNeg, Int.reduceToNat, Nat.reduceEqDiff, reduceIte, if_neg, if_pos, gI_ne]
              have hr := ask_ref m1 true f t n ((s1 98 32 (by omega)).trans hn) h40 ((s1 98 33 (by omega)).trans h3) hf ht (fun k hk => by
                rw [s1 98 32 (by omega)] at hk
                rw [s1 123 k (by omega), s1 124 k (by omega)]
                exact hno k hk)
              have hz := ask_new (m := m) (m2 := askM m1 true f t n) (is := true) hR hn h40 hf ht h3 hno (fun c k hc => by
                unfold askM
                rw [hm1]
                simp only [gI_sI]
                repeat rw [if_neg (by omega)]) (by unfold askM; rw [hm1]; simp only [gR_sI]) (by unfold askM; rw [hm1]; simp (disch := omega) only [qbI_s, qbL_s, qbV_s, qbR_s, qbR_n, qbN_s, qbN_n, qbIX_s, qbIX_n, qbVX_s, qbVX_n, cond_true, cond_false, cond_dec, jadd, jsub, jmul, jneg, li_0, li_1, li_2, li_3, li_4, li_5, li_6, li_7, li_8, li_9, li_10, li_14, li_15, li_16, li_19, li_20, li_24, li_30, li_31, li_32, li_39, li_40, li_48, li_57, li_59, li_60, li_63, li_65, li_80, li_81, li_90, li_97, li_99, li_100, li_122, li_126, li_127, li_150, li_160, li_200, li_225, li_255, li_400, li_799, li_800, li_999, li_2400, li_3239, li_3240, li_1048575, li_1431655765, li_858993459, li_252645135, eqb_j, ltb_j, leb_j, inb_j, ix_j, ix_n, nz_b, nz_0, nz_1, eqb_b, bnot, vI_ne, vI_eq, gIL, gLI, gIR, gRI, gLR, gRL, Int.reduceLT, Int.reduceLE, Int.reduceEq, Int.reduceAdd, Int.reduceSub, Int.reduceMul, Int.reduceNeg, Int.reduceToNat, Nat.reduceEqDiff, reduceIte, if_neg, if_pos, gI_ne]) (by unfold askM; rw [hm1]; simp (disch := omega) only [qbI_s, qbL_s, qbV_s, qbR_s, qbR_n, qbN_s, qbN_n, qbIX_s, qbIX_n, qbVX_s, qbVX_n, cond_true, cond_false, cond_dec, jadd, jsub, jmul, jneg, li_0, li_1, li_2, li_3, li_4, li_5, li_6, li_7, li_8, li_9, li_10, li_14, li_15, li_16, li_19, li_20, li_24, li_30, li_31, li_32, li_39, li_40, li_48, li_57, li_59, li_60, li_63, li_65, li_80, li_81, li_90, li_97, li_99, li_100, li_122, li_126, li_127, li_150, li_160, li_200, li_225, li_255, li_400, li_799, li_800, li_999, li_2400, li_3239, li_3240, li_1048575, li_1431655765, li_858993459, li_252645135, eqb_j, ltb_j, leb_j, inb_j, ix_j, ix_n, nz_b, nz_0, nz_1, eqb_b, bnot, vI_ne, vI_eq, gIL, gLI, gIR, gRI, gLR, gRL, Int.reduceLT, Int.reduceLE, Int.reduceEq, Int.reduceAdd, Int.reduceSub, Int.reduceMul, Int.reduceNeg, Int.reduceToNat, Nat.reduceEqDiff, reduceIte, if_neg, if_pos, gI_ne, show bI true = 1 from rfl, Int.add_zero]) (by unfold askM; rw [hm1]; simp (disch := omega) only [qbI_s, qbL_s, qbV_s, qbR_s, qbR_n, qbN_s, qbN_n, qbIX_s, qbIX_n, qbVX_s, qbVX_n, cond_true, cond_false, cond_dec, jadd, jsub, jmul, jneg, li_0, li_1, li_2, li_3, li_4, li_5, li_6, li_7, li_8, li_9, li_10, li_14, li_15, li_16, li_19, li_20, li_24, li_30, li_31, li_32, li_39, li_40, li_48, li_57, li_59, li_60, li_63, li_65, li_80, li_81, li_90, li_97, li_99, li_100, li_122, li_126, li_127, li_150, li_160, li_200, li_225, li_255, li_400, li_799, li_800, li_999, li_2400, li_3239, li_3240, li_1048575, li_1431655765, li_858993459, li_252645135, eqb_j, ltb_j, leb_j, inb_j, ix_j, ix_n, nz_b, nz_0, nz_1, eqb_b, bnot, vI_ne, vI_eq, gIL, gLI, gIR, gRI, gLR, gRL, Int.reduceLT, Int.reduceLE, Int.reduceEq, Int.reduceAdd, Int.reduceSub, Int.reduceMul, Int.reduceNeg, Int.reduceToNat, Nat.reduceEqDiff, reduceIte, if_neg, if_pos, gI_ne]) (fun k => by unfold askM; rw [hm1]; simp (disch := omega) only [qbI_s, qbL_s, qbV_s, qbR_s, qbR_n, qbN_s, qbN_n, qbIX_s, qbIX_n, qbVX_s, qbVX_n, cond_true, cond_false, cond_dec, jadd, jsub, jmul, jneg, li_0, li_1, li_2, li_3, li_4, li_5, li_6, li_7, li_8, li_9, li_10, li_14, li_15, li_16, li_19, li_20, li_24, li_30, li_31, li_32, li_39, li_40, li_48, li_57, li_59, li_60, li_63, li_65, li_80, li_81, li_90, li_97, li_99, li_100, li_122, li_126, li_127, li_150, li_160, li_200, li_225, li_255, li_400, li_799, li_800, li_999, li_2400, li_3239, li_3240, li_1048575, li_1431655765, li_858993459, li_252645135, eqb_j, ltb_j, leb_j, inb_j, ix_j, ix_n, nz_b, nz_0, nz_1, eqb_b, bnot, vI_ne, vI_eq, gIL, gLI, gIR, gRI, gLR, gRL, Int.reduceLT, Int.reduceLE, Int.reduceEq, Int.reduceAdd, Int.reduceSub, Int.reduceMul, Int.reduceNeg, Int.reduceToNat, Nat.reduceEqDiff, reduceIte, if_neg, if_pos, gI_ne]) (fun k => by unfold askM; rw [hm1]; simp (disch := omega) only [qbI_s, qbL_s, qbV_s, qbR_s, qbR_n, qbN_s, qbN_n, qbIX_s, qbIX_n, qbVX_s, qbVX_n, cond_true, cond_false, cond_dec, jadd, jsub, jmul, jneg, li_0, li_1, li_2, li_3, li_4, li_5, li_6, li_7, li_8, li_9, li_10, li_14, li_15, li_16, li_19, li_20, li_24, li_30, li_31, li_32, li_39, li_40, li_48, li_57, li_59, li_60, li_63, li_65, li_80, li_81, li_90, li_97, li_99, li_100, li_122, li_126, li_127, li_150, li_160, li_200, li_225, li_255, li_400, li_799, li_800, li_999, li_2400, li_3239, li_3240, li_1048575, li_1431655765, li_858993459, li_252645135, eqb_j, ltb_j, leb_j, inb_j, ix_j, ix_n, nz_b, nz_0, nz_1, eqb_b, bnot, vI_ne, vI_eq, gIL, gLI, gIR, gRI, gLR, gRL, Int.reduceLT, Int.reduceLE, Int.reduceEq, Int.reduceAdd, Int.reduceSub, Int.reduceMul, Int.reduceNeg, Int.reduceToNat, Nat.reduceEqDiff, reduceIte, if_neg, if_pos, gI_ne]) (fun k => by unfold askM; rw [hm1]; simp (disch := omega) only [qbI_s, qbL_s, qbV_s, qbR_s, qbR_n, qbN_s, qbN_n, qbIX_s, qbIX_n, qbVX_s, qbVX_n, cond_true, cond_false, cond_dec, jadd, jsub, jmul, jneg, li_0, li_1, li_2, li_3, li_4, li_5, li_6, li_7, li_8, li_9, li_10, li_14, li_15, li_16, li_19, li_20, li_24, li_30, li_31, li_32, li_39, li_40, li_48, li_57, li_59, li_60, li_63, li_65, li_80, li_81, li_90, li_97, li_99, li_100, li_122, li_126, li_127, li_150, li_160, li_200, li_225, li_255, li_400, li_799, li_800, li_999, li_2400, li_3239, li_3240, li_1048575, li_1431655765, li_858993459, li_252645135, eqb_j, ltb_j, leb_j, inb_j, ix_j, ix_n, nz_b, nz_0, nz_1, eqb_b, bnot, vI_ne, vI_eq, gIL, gLI, gIR, gRI, gLR, gRL, Int.reduceLT, Int.reduceLE, Int.reduceEq, Int.reduceAdd, Int.reduceSub, Int.reduceMul, Int.reduceNeg, Int.reduceToNat, Nat.reduceEqDiff, reduceIte, if_neg, if_pos, gI_ne, show bI true = 1 from rfl]) (fun k => by unfold askM; rw [hm1]; simp (disch := omega) only [qbI_s, qbL_s, qbV_s, qbR_s, qbR_n, qbN_s, qbN_n, qbIX_s, qbIX_n, qbVX_s, qbVX_n, cond_true, cond_false, cond_dec, jadd, jsub, jmul, jneg, li_0, li_1, li_2, li_3, li_4, li_5, li_6, li_7, li_8, li_9, li_10, li_14, li_15, li_16, li_19, li_20, li_24, li_30, li_31, li_32, li_39, li_40, li_48, li_57, li_59, li_60, li_63, li_65, li_80, li_81, li_90, li_97, li_99, li_100, li_122, li_126, li_127, li_150, li_160, li_200, li_225, li_255, li_400, li_799, li_800, li_999, li_2400, li_3239, li_3240, li_1048575, li_1431655765, li_858993459, li_252645135, eqb_j, ltb_j, leb_j, inb_j, ix_j, ix_n, nz_b, nz_0, nz_1, eqb_b, bnot, vI_ne, vI_eq, gIL, gLI, gIR, gRI, gLR, gRL, Int.reduceLT, Int.reduceLE, Int.reduceEq, Int.reduceAdd, Int.reduceSub, Int.reduceMul, Int.reduceNeg, Int.reduceToNat, Nat.reduceEqDiff, reduceIte, if_neg, if_pos, gI_ne]) (fun k => by unfold askM; rw [hm1]; simp (disch := omega) only [qbI_s, qbL_s, qbV_s, qbR_s, qbR_n, qbN_s, qbN_n, qbIX_s, qbIX_n, qbVX_s, qbVX_n, cond_true, cond_false, cond_dec, jadd, jsub, jmul, jneg, li_0, li_1, li_2, li_3, li_4, li_5, li_6, li_7, li_8, li_9, li_10, li_14, li_15, li_16, li_19, li_20, li_24, li_30, li_31, li_32, li_39, li_40, li_48, li_57, li_59, li_60, li_63, li_65, li_80, li_81, li_90, li_97, li_99, li_100, li_122, li_126, li_127, li_150, li_160, li_200, li_225, li_255, li_400, li_799, li_800, li_999, li_2400, li_3239, li_3240, li_1048575, li_1431655765, li_858993459, li_252645135, eqb_j, ltb_j, leb_j, inb_j, ix_j, ix_n, nz_b, nz_0, nz_1, eqb_b, bnot, vI_ne, vI_eq, gIL, gLI, gIR, gRI, gLR, gRL, Int.reduceLT, Int.reduceLE, Int.reduceEq, Int.reduceAdd, Int.reduceSub, Int.reduceMul, Int.reduceNeg, Int.reduceToNat, Nat.reduceEqDiff, reduceIte, if_neg, if_pos, gI_ne]) (fun k => by unfold askM; rw [hm1]; simp (disch := omega) only [qbI_s, qbL_s, qbV_s, qbR_s, qbR_n, qbN_s, qbN_n, qbIX_s, qbIX_n, qbVX_s, qbVX_n, cond_true, cond_false, cond_dec, jadd, jsub, jmul, jneg, li_0, li_1, li_2, li_3, li_4, li_5, li_6, li_7, li_8, li_9, li_10, li_14, li_15, li_16, li_19, li_20, li_24, li_30, li_31, li_32, li_39, li_40, li_48, li_57, li_59, li_60, li_63, li_65, li_80, li_81, li_90, li_97, li_99, li_100, li_122, li_126, li_127, li_150, li_160, li_200, li_225, li_255, li_400, li_799, li_800, li_999, li_2400, li_3239, li_3240, li_1048575, li_1431655765, li_858993459, li_252645135, eqb_j, ltb_j, leb_j, inb_j, ix_j, ix_n, nz_b, nz_0, nz_1, eqb_b, bnot, vI_ne, vI_eq, gIL, gLI, gIR, gRI, gLR, gRL, Int.reduceLT, Int.reduceLE, Int.reduceEq, Int.reduceAdd, Int.reduceSub, Int.reduceMul, Int.reduceNeg, Int.reduceToNat, Nat.reduceEqDiff, reduceIte, if_neg, if_pos, gI_ne]) (fun k => by unfold askM; rw [hm1]; simp (disch := omega) only [qbI_s, qbL_s, qbV_s, qbR_s, qbR_n, qbN_s, qbN_n, qbIX_s, qbIX_n, qbVX_s, qbVX_n, cond_true, cond_false, cond_dec, jadd, jsub, jmul, jneg, li_0, li_1, li_2, li_3, li_4, li_5, li_6, li_7, li_8, li_9, li_10, li_14, li_15, li_16, li_19, li_20, li_24, li_30, li_31, li_32, li_39, li_40, li_48, li_57, li_59, li_60, li_63, li_65, li_80, li_81, li_90, li_97, li_99, li_100, li_122, li_126, li_127, li_150, li_160, li_200, li_225, li_255, li_400, li_799, li_800, li_999, li_2400, li_3239, li_3240, li_1048575, li_1431655765, li_858993459, li_252645135, eqb_j, ltb_j, leb_j, inb_j, ix_j, ix_n, nz_b, nz_0, nz_1, eqb_b, bnot, vI_ne, vI_eq, gIL, gLI, gIR, gRI, gLR, gRL, Int.reduceLT, Int.reduceLE, Int.reduceEq, Int.reduceAdd, Int.reduceSub, Int.reduceMul, Int.reduceNeg, Int.reduceToNat, Nat.reduceEqDiff, reduceIte, if_neg, if_pos, gI_ne]) (fun k => by unfold askM; rw [hm1]; simp (disch := omega) only [qbI_s, qbL_s, qbV_s, qbR_s, qbR_n, qbN_s, qbN_n, qbIX_s, qbIX_n, qbVX_s, qbVX_n, cond_true, cond_false, cond_dec, jadd, jsub, jmul, jneg, li_0, li_1, li_2, li_3, li_4, li_5, li_6, li_7, li_8, li_9, li_10, li_14, li_15, li_16, li_19, li_20, li_24, li_30, li_31, li_32, li_39, li_40, li_48, li_57, li_59, li_60, li_63, li_65, li_80, li_81, li_90, li_97, li_99, li_100, li_122, li_126, li_127, li_150, li_160, li_200, li_225, li_255, li_400, li_799, li_800, li_999, li_2400, li_3239, li_3240, li_1048575, li_1431655765, li_858993459, li_252645135, eqb_j, ltb_j, leb_j, inb_j, ix_j, ix_n, nz_b, nz_0, nz_1, eqb_b, bnot, vI_ne, vI_eq, gIL, gLI, gIR, gRI, gLR, gRL, Int.reduceLT, Int.reduceLE, Int.reduceEq, Int.reduceAdd, Int.reduceSub, Int.reduceMul, Int.reduceNeg, Int.reduceToNat, Nat.reduceEqDiff, reduceIte, if_neg, if_pos, gI_ne]) (fun k => by unfold askM; rw [hm1]; simp (disch := omega) only [qbI_s, qbL_s, qbV_s, qbR_s, qbR_n, qbN_s, qbN_n, qbIX_s, qbIX_n, qbVX_s, qbVX_n, cond_true, cond_false, cond_dec, jadd, jsub, jmul, jneg, li_0, li_1, li_2, li_3, li_4, li_5, li_6, li_7, li_8, li_9, li_10, li_14, li_15, li_16, li_19, li_20, li_24, li_30, li_31, li_32, li_39, li_40, li_48, li_57, li_59, li_60, li_63, li_65, li_80, li_81, li_90, li_97, li_99, li_100, li_122, li_126, li_127, li_150, li_160, li_200, li_225, li_255, li_400, li_799, li_800, li_999, li_2400, li_3239, li_3240, li_1048575, li_1431655765, li_858993459, li_252645135, eqb_j, ltb_j, leb_j, inb_j, ix_j, ix_n, nz_b, nz_0, nz_1, eqb_b, bnot, vI_ne, vI_eq, gIL, gLI, gIR, gRI, gLR, gRL, Int.reduceLT, Int.reduceLE, Int.reduceEq, Int.reduceAdd, Int.reduceSub, Int.reduceMul, Int.reduceNeg, Int.reduceToNat, Nat.reduceEqDiff, reduceIte, if_neg, if_pos, gI_ne, show bI true = 1 from rfl]) 
              refine ⟨Zi n, m1, askM m1 true f t n, ?_, hr, hz.1, hz.2⟩
              rw [fX11_ask_d, hm1]
              simp (disch := omega) only [fX11_ask_0, fX11_ask_33, fX4_askOf_d, fX4_askOf_0, fX4_asks_d, fX4_asks_0, fX4_addAsk_d, fX4_addAsk_0, fX4_addAsk_52, qbI_s, qbL_s, qbV_s, qbR_s, qbR_n, qbN_s, qbN_n, qbIX_s, qbIX_n, qbVX_s, qbVX_n, cond_true, cond_false, cond_dec, jadd, jsub, jmul, jneg, li_0, li_1, li_2, li_3, li_4, li_5, li_6, li_7, li_8, li_9, li_10, li_14, li_15, li_16, li_19, li_20, li_24, li_30, li_31, li_32, li_39, li_40, li_48, li_57, li_59, li_60, li_63, li_65, li_80, li_81, li_90, li_97, li_99, li_100, li_122, li_126, li_127, li_150, li_160, li_200, li_225, li_255, li_400, li_799, li_800, li_999, li_2400, li_3239, li_3240, li_1048575, li_1431655765, li_858993459, li_252645135, eqb_j, ltb_j, leb_j, inb_j, ix_j, ix_n, nz_b, nz_0, nz_1, eqb_b, bnot, vI_ne, vI_eq, gIL, gLI, gIR, gRI, gLR, gRL, Int.reduceLT, Int.reduceLE, Int.reduceEq, Int.reduceAdd, Int.reduceSub, Int.reduceMul, Int.reduceNeg, Int.reduceToNat, Nat.reduceEqDiff, reduceIte, if_neg, if_pos, gI_ne, gIv 0, gIv 58, gIv 63, fR_s, tR_s, w1, h3, i1, h63, v11]
      · refine QOp.same (x := Zi (-4)) hR ?_ ?_
        · rw [fX11_ask_d]
          simp (disch := omega) only [fX11_ask_0, fX11_ask_18, qbI_s, qbL_s, qbV_s, qbR_s, qbR_n, qbN_s, qbN_n, qbIX_s, qbIX_n, qbVX_s, qbVX_n, cond_true, cond_false, cond_dec, jadd, jsub, jmul, jneg, li_0, li_1, li_2, li_3, li_4, li_5, li_6, li_7, li_8, li_9, li_10, li_14, li_15, li_16, li_19, li_20, li_24, li_30, li_31, li_32, li_39, li_40, li_48, li_57, li_59, li_60, li_63, li_65, li_80, li_81, li_90, li_97, li_99, li_100, li_122, li_126, li_127, li_150, li_160, li_200, li_225, li_255, li_400, li_799, li_800, li_999, li_2400, li_3239, li_3240, li_1048575, li_1431655765, li_858993459, li_252645135, eqb_j, ltb_j, leb_j, inb_j, ix_j, ix_n, nz_b, nz_0, nz_1, eqb_b, bnot, vI_ne, vI_eq, gIL, gLI, gIR, gRI, gLR, gRL, Int.reduceLT, Int.reduceLE, Int.reduceEq, Int.reduceAdd, Int.reduceSub, Int.reduceMul, Int.reduceNeg, Int.reduceToNat, Nat.reduceEqDiff, reduceIte, if_neg, if_pos, gI_ne, gIv 0, fR_s, tR_s, w1]
        · rw [fX13_ask_d]
          simp (disch := omega) only [fX13_ask_0, qbI_s, qbL_s, qbV_s, qbR_s, qbR_n, qbN_s, qbN_n, qbIX_s, qbIX_n, qbVX_s, qbVX_n, cond_true, cond_false, cond_dec, jadd, jsub, jmul, jneg, li_0, li_1, li_2, li_3, li_4, li_5, li_6, li_7, li_8, li_9, li_10, li_14, li_15, li_16, li_19, li_20, li_24, li_30, li_31, li_32, li_39, li_40, li_48, li_57, li_59, li_60, li_63, li_65, li_80, li_81, li_90, li_97, li_99, li_100, li_122, li_126, li_127, li_150, li_160, li_200, li_225, li_255, li_400, li_799, li_800, li_999, li_2400, li_3239, li_3240, li_1048575, li_1431655765, li_858993459, li_252645135, eqb_j, ltb_j, leb_j, inb_j, ix_j, ix_n, nz_b, nz_0, nz_1, eqb_b, bnot, vI_ne, vI_eq, gIL, gLI, gIR, gRI, gLR, gRL, Int.reduceLT, Int.reduceLE, Int.reduceEq, Int.reduceAdd, Int.reduceSub, Int.reduceMul, Int.reduceNeg, Int.reduceToNat, Nat.reduceEqDiff, reduceIte, if_neg, if_pos, gI_ne, ll_0, ll_1, ll_3, ll_5, ll_9, ll_10, ll_13, ll_14, ll_19, ll_20, ll_32, ll_60, ll_126, ll_799, ll_1024, ll_1048576, ll_67108864, Zladd, Zlsub, Zlmul, Zlneg, toL, lg_lt, lg_gt, lg_le, gIv 98, fM_s, tM_s, in_s]
    · refine QOp.same (x := Zi (-2)) hR ?_ ?_
      · rw [fX11_ask_d]
        simp (disch := omega) only [fX11_ask_0, fX11_ask_6, qbI_s, qbL_s, qbV_s, qbR_s, qbR_n, qbN_s, qbN_n, qbIX_s, qbIX_n, qbVX_s, qbVX_n, cond_true, cond_false, cond_dec, jadd, jsub, jmul, jneg, li_0, li_1, li_2, li_3, li_4, li_5, li_6, li_7, li_8, li_9, li_10, li_14, li_15, li_16, li_19, li_20, li_24, li_30, li_31, li_32, li_39, li_40, li_48, li_57, li_59, li_60, li_63, li_65, li_80, li_81, li_90, li_97, li_99, li_100, li_122, li_126, li_127, li_150, li_160, li_200, li_225, li_255, li_400, li_799, li_800, li_999, li_2400, li_3239, li_3240, li_1048575, li_1431655765, li_858993459, li_252645135, eqb_j, ltb_j, leb_j, inb_j, ix_j, ix_n, nz_b, nz_0, nz_1, eqb_b, bnot, vI_ne, vI_eq, gIL, gLI, gIR, gRI, gLR, gRL, Int.reduceLT, Int.reduceLE, Int.reduceEq, Int.reduceAdd, Int.reduceSub, Int.reduceMul, Int.reduceNeg, Int.reduceToNat, Nat.reduceEqDiff, reduceIte, if_neg, if_pos, gI_ne, fR_s, tR_s]
      · rw [fX13_ask_d]
        simp (disch := omega) only [fX13_ask_0, fX13_ask_6, qbI_s, qbL_s, qbV_s, qbR_s, qbR_n, qbN_s, qbN_n, qbIX_s, qbIX_n, qbVX_s, qbVX_n, cond_true, cond_false, cond_dec, jadd, jsub, jmul, jneg, li_0, li_1, li_2, li_3, li_4, li_5, li_6, li_7, li_8, li_9, li_10, li_14, li_15, li_16, li_19, li_20, li_24, li_30, li_31, li_32, li_39, li_40, li_48, li_57, li_59, li_60, li_63, li_65, li_80, li_81, li_90, li_97, li_99, li_100, li_122, li_126, li_127, li_150, li_160, li_200, li_225, li_255, li_400, li_799, li_800, li_999, li_2400, li_3239, li_3240, li_1048575, li_1431655765, li_858993459, li_252645135, eqb_j, ltb_j, leb_j, inb_j, ix_j, ix_n, nz_b, nz_0, nz_1, eqb_b, bnot, vI_ne, vI_eq, gIL, gLI, gIR, gRI, gLR, gRL, Int.reduceLT, Int.reduceLE, Int.reduceEq, Int.reduceAdd, Int.reduceSub, Int.reduceMul, Int.reduceNeg, Int.reduceToNat, Nat.reduceEqDiff, reduceIte, if_neg, if_pos, gI_ne, ll_0, ll_1, ll_3, ll_5, ll_9, ll_10, ll_13, ll_14, ll_19, ll_20, ll_32, ll_60, ll_126, ll_799, ll_1024, ll_1048576, ll_67108864, Zladd, Zlsub, Zlmul, Zlneg, toL, lg_lt, lg_gt, lg_le, fM_s, tM_s, in_s]
  · refine QOp.same (x := Zi (-2)) hR ?_ ?_
    · rw [fX11_ask_d]
      simp (disch := omega) only [fX11_ask_0, fX11_ask_6, qbI_s, qbL_s, qbV_s, qbR_s, qbR_n, qbN_s, qbN_n, qbIX_s, qbIX_n, qbVX_s, qbVX_n, cond_true, cond_false, cond_dec, jadd, jsub, jmul, jneg, li_0, li_1, li_2, li_3, li_4, li_5, li_6, li_7, li_8, li_9, li_10, li_14, li_15, li_16, li_19, li_20, li_24, li_30, li_31, li_32, li_39, li_40, li_48, li_57, li_59, li_60, li_63, li_65, li_80, li_81, li_90, li_97, li_99, li_100, li_122, li_126, li_127, li_150, li_160, li_200, li_225, li_255, li_400, li_799, li_800, li_999, li_2400, li_3239, li_3240, li_1048575, li_1431655765, li_858993459, li_252645135, eqb_j, ltb_j, leb_j, inb_j, ix_j, ix_n, nz_b, nz_0, nz_1, eqb_b, bnot, vI_ne, vI_eq, gIL, gLI, gIR, gRI, gLR, gRL, Int.reduceLT, Int.reduceLE, Int.reduceEq, Int.reduceAdd, Int.reduceSub, Int.reduceMul, Int.reduceNeg, Int.reduceToNat, Nat.reduceEqDiff, reduceIte, if_neg, if_pos, gI_ne, fR_s]
    · rw [fX13_ask_d]
      simp (disch := omega) only [fX13_ask_0, fX13_ask_6, qbI_s, qbL_s, qbV_s, qbR_s, qbR_n, qbN_s, qbN_n, qbIX_s, qbIX_n, qbVX_s, qbVX_n, cond_true, cond_false, cond_dec, jadd, jsub, jmul, jneg, li_0, li_1, li_2, li_3, li_4, li_5, li_6, li_7, li_8, li_9, li_10, li_14, li_15, li_16, li_19, li_20, li_24, li_30, li_31, li_32, li_39, li_40, li_48, li_57, li_59, li_60, li_63, li_65, li_80, li_81, li_90, li_97, li_99, li_100, li_122, li_126, li_127, li_150, li_160, li_200, li_225, li_255, li_400, li_799, li_800, li_999, li_2400, li_3239, li_3240, li_1048575, li_1431655765, li_858993459, li_252645135, eqb_j, ltb_j, leb_j, inb_j, ix_j, ix_n, nz_b, nz_0, nz_1, eqb_b, bnot, vI_ne, vI_eq, gIL, gLI, gIR, gRI, gLR, gRL, Int.reduceLT, Int.reduceLE, Int.reduceEq, Int.reduceAdd, Int.reduceSub, Int.reduceMul, Int.reduceNeg, Int.reduceToNat, Nat.reduceEqDiff, reduceIte, if_neg, if_pos, gI_ne, ll_0, ll_1, ll_3, ll_5, ll_9, ll_10, ll_13, ll_14, ll_19, ll_20, ll_32, ll_60, ll_126, ll_799, ll_1024, ll_1048576, ll_67108864, Zladd, Zlsub, Zlmul, Zlneg, toL, lg_lt, lg_gt, lg_le, fM_s, in_s]
