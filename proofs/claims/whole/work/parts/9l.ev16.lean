/-! messages -/
/-- all of their minutes -/
def cpl (m : qM) (k : Nat) : Prop := k = 0 ∨ (k : Int) = vI m 98 52 ∨ vI m 134 k ≠ vI m 134 (k - 1)
theorem areAll_s {m : qM} (hTe : RTell m) (k : Nat) (hk : (k : Int) ≤ vI m 98 52) : fX9_areAllOfTheirMinutes (Zi k) m = some (Zi (bI (pd (cpl m k))), m) := by
  obtain ⟨e1, e2, e3, e4, e5, e6⟩ := hTe
  have mo : ∀ j : Nat, (j : Int) < vI m 98 52 → fX9_minuteOf (Zi j) m = some (Zi (vI m 134 j), m) := fun j hj => by
    have c := (e4 j (by omega)).2.1
    have r := e5 j hj
    rw [fX9_minuteOf_d]
    simp (disch := omega) only [fX9_minuteOf_0, fX9_minuteOf_11, fX9_minuteOf_12, qbI_s, qbL_s, qbV_s, qbR_s, qbR_n, qbN_s, qbN_n, qbIX_s, qbIX_n, qbVX_s, qbVX_n, cond_true, cond_false, cond_dec, jadd, jsub, jmul, jneg, li_0, li_1, li_2, li_3, li_4, li_5, li_6, li_7, li_8, li_9, li_10, li_14, li_15, li_16, li_19, li_20, li_24, li_30, li_31, li_32, li_39, li_40, li_48, li_57, li_59, li_60, li_63, li_65, li_80, li_81, li_90, li_97, li_99, li_100, li_122, li_126, li_127, li_150, li_160, li_200, li_225, li_255, li_400, li_799, li_800, li_999, li_2400, li_3239, li_3240, li_1048575, li_1431655765, li_858993459, li_252645135, eqb_j, ltb_j, leb_j, inb_j, ix_j, ix_n, nz_b, nz_0, nz_1, eqb_b, bnot, vI_ne, vI_eq, gIL, gLI, gIR, gRI, gLR, gRL, Int.reduceLT, Int.reduceLE, Int.reduceEq, Int.reduceAdd, Int.reduceSub, Int.reduceMul, Int.reduceNeg, Int.reduceToNat, Nat.reduceEqDiff, reduceIte, if_neg, if_pos, gI_ne, gIv 74, e1, gIv 76, c]
  rw [fX9_areAllOfTheirMinutes_d]
  by_cases g0 : k = 0
  · rw [pd_t (p := cpl m k) (Or.inl g0)]
    simp (disch := omega) only [fX9_areAllOfTheirMinutes_0, fX9_areAllOfTheirMinutes_14, fX9_areAllOfTheirMinutes_11, qbI_s, qbL_s, qbV_s, qbR_s, qbR_n, qbN_s, qbN_n, qbIX_s, qbIX_n, qbVX_s, qbVX_n, cond_true, cond_false, cond_dec, jadd, jsub, jmul, jneg, li_0, li_1, li_2, li_3, li_4, li_5, li_6, li_7, li_8, li_9, li_10, li_14, li_15, li_16, li_19, li_20, li_24, li_30, li_31, li_32, li_39, li_40, li_48, li_57, li_59, li_60, li_63, li_65, li_80, li_81, li_90, li_97, li_99, li_100, li_122, li_126, li_127, li_150, li_160, li_200, li_225, li_255, li_400, li_799, li_800, li_999, li_2400, li_3239, li_3240, li_1048575, li_1431655765, li_858993459, li_252645135, eqb_j, ltb_j, leb_j, inb_j, ix_j, ix_n, nz_b, nz_0, nz_1, eqb_b, bnot, vI_ne, vI_eq, gIL, gLI, gIR, gRI, gLR, gRL, Int.reduceLT, Int.reduceLE, Int.reduceEq, Int.reduceAdd, Int.reduceSub, Int.reduceMul, Int.reduceNeg, Int.reduceToNat, Nat.reduceEqDiff, reduceIte, if_neg, if_pos, gI_ne, g0, show bI true = 1 from rfl, Int.ofNat_zero]
  · have m1 := mo (k - 1) (by omega)
    rw [show ((k - 1 : Nat) : Int) = (k : Int) - 1 by omega] at m1
    have r1 := e5 (k - 1) (by omega)
    by_cases g1 : (k : Int) = vI m 98 52
    · rw [pd_t (p := cpl m k) (Or.inr (Or.inl g1))]
      have m0 : fX9_minuteOf (Zi k) m = some (Zi (-1), m) := by
        rw [fX9_minuteOf_d]
        simp (disch := omega) only [fX9_minuteOf_0, fX9_minuteOf_11, fX9_minuteOf_12, qbI_s, qbL_s, qbV_s, qbR_s, qbR_n, qbN_s, qbN_n, qbIX_s, qbIX_n, qbVX_s, qbVX_n, cond_true, cond_false, cond_dec, jadd, jsub, jmul, jneg, li_0, li_1, li_2, li_3, li_4, li_5, li_6, li_7, li_8, li_9, li_10, li_14, li_15, li_16, li_19, li_20, li_24, li_30, li_31, li_32, li_39, li_40, li_48, li_57, li_59, li_60, li_63, li_65, li_80, li_81, li_90, li_97, li_99, li_100, li_122, li_126, li_127, li_150, li_160, li_200, li_225, li_255, li_400, li_799, li_800, li_999, li_2400, li_3239, li_3240, li_1048575, li_1431655765, li_858993459, li_252645135, eqb_j, ltb_j, leb_j, inb_j, ix_j, ix_n, nz_b, nz_0, nz_1, eqb_b, bnot, vI_ne, vI_eq, gIL, gLI, gIR, gRI, gLR, gRL, Int.reduceLT, Int.reduceLE, Int.reduceEq, Int.reduceAdd, Int.reduceSub, Int.reduceMul, Int.reduceNeg, Int.reduceToNat, Nat.reduceEqDiff, reduceIte, if_neg, if_pos, gI_ne, gIv 74, e1, show (-1 : Int32) = Zi (-1) from rfl]
      simp (disch := omega) only [fX9_areAllOfTheirMinutes_0, fX9_areAllOfTheirMinutes_14, fX9_areAllOfTheirMinutes_11, qbI_s, qbL_s, qbV_s, qbR_s, qbR_n, qbN_s, qbN_n, qbIX_s, qbIX_n, qbVX_s, qbVX_n, cond_true, cond_false, cond_dec, jadd, jsub, jmul, jneg, li_0, li_1, li_2, li_3, li_4, li_5, li_6, li_7, li_8, li_9, li_10, li_14, li_15, li_16, li_19, li_20, li_24, li_30, li_31, li_32, li_39, li_40, li_48, li_57, li_59, li_60, li_63, li_65, li_80, li_81, li_90, li_97, li_99, li_100, li_122, li_126, li_127, li_150, li_160, li_200, li_225, li_255, li_400, li_799, li_800, li_999, li_2400, li_3239, li_3240, li_1048575, li_1431655765, li_858993459, li_252645135, eqb_j, ltb_j, leb_j, inb_j, ix_j, ix_n, nz_b, nz_0, nz_1, eqb_b, bnot, vI_ne, vI_eq, gIL, gLI, gIR, gRI, gLR, gRL, Int.reduceLT, Int.reduceLE, Int.reduceEq, Int.reduceAdd, Int.reduceSub, Int.reduceMul, Int.reduceNeg, Int.reduceToNat, Nat.reduceEqDiff, reduceIte, if_neg, if_pos, gI_ne, m0, m1, show bI true = 1 from rfl]
    · have m0 := mo k (by omega)
      have r0 := e5 k (by omega)
      by_cases g2 : vI m 134 k = vI m 134 (k - 1)
      · rw [pd_f (fun z => by rcases z with z | z | z <;> omega)]
        rw [g2] at m0
        simp (disch := omega) only [fX9_areAllOfTheirMinutes_0, fX9_areAllOfTheirMinutes_14, fX9_areAllOfTheirMinutes_11, qbI_s, qbL_s, qbV_s, qbR_s, qbR_n, qbN_s, qbN_n, qbIX_s, qbIX_n, qbVX_s, qbVX_n, cond_true, cond_false, cond_dec, jadd, jsub, jmul, jneg, li_0, li_1, li_2, li_3, li_4, li_5, li_6, li_7, li_8, li_9, li_10, li_14, li_15, li_16, li_19, li_20, li_24, li_30, li_31, li_32, li_39, li_40, li_48, li_57, li_59, li_60, li_63, li_65, li_80, li_81, li_90, li_97, li_99, li_100, li_122, li_126, li_127, li_150, li_160, li_200, li_225, li_255, li_400, li_799, li_800, li_999, li_2400, li_3239, li_3240, li_1048575, li_1431655765, li_858993459, li_252645135, eqb_j, ltb_j, leb_j, inb_j, ix_j, ix_n, nz_b, nz_0, nz_1, eqb_b, bnot, vI_ne, vI_eq, gIL, gLI, gIR, gRI, gLR, gRL, Int.reduceLT, Int.reduceLE, Int.reduceEq, Int.reduceAdd, Int.reduceSub, Int.reduceMul, Int.reduceNeg, Int.reduceToNat, Nat.reduceEqDiff, reduceIte, if_neg, if_pos, gI_ne, m0, m1, show bI false = 0 from rfl]
      · rw [pd_t (p := cpl m k) (Or.inr (Or.inr g2))]
        simp (disch := omega) only [fX9_areAllOfTheirMinutes_0, fX9_areAllOfTheirMinutes_14, fX9_areAllOfTheirMinutes_11, qbI_s, qbL_s, qbV_s, qbR_s, qbR_n, qbN_s, qbN_n, qbIX_s, qbIX_n, qbVX_s, qbVX_n, cond_true, cond_false, cond_dec, jadd, jsub, jmul, jneg, li_0, li_1, li_2, li_3, li_4, li_5, li_6, li_7, li_8, li_9, li_10, li_14, li_15, li_16, li_19, li_20, li_24, li_30, li_31, li_32, li_39, li_40, li_48, li_57, li_59, li_60, li_63, li_65, li_80, li_81, li_90, li_97, li_99, li_100, li_122, li_126, li_127, li_150, li_160, li_200, li_225, li_255, li_400, li_799, li_800, li_999, li_2400, li_3239, li_3240, li_1048575, li_1431655765, li_858993459, li_252645135, eqb_j, ltb_j, leb_j, inb_j, ix_j, ix_n, nz_b, nz_0, nz_1, eqb_b, bnot, vI_ne, vI_eq, gIL, gLI, gIR, gRI, gLR, gRL, Int.reduceLT, Int.reduceLE, Int.reduceEq, Int.reduceAdd, Int.reduceSub, Int.reduceMul, Int.reduceNeg, Int.reduceToNat, Nat.reduceEqDiff, reduceIte, if_neg, if_pos, gI_ne, m0, m1, show bI true = 1 from rfl]
theorem cpl_cg {m m' : qM} (q : ∀ c k, c = 134 ∨ c = 98 ∧ k = 52 → gI m' c k = gI m c k) (k : Nat) : cpl m' k ↔ cpl m k := by
  unfold cpl
  rw [vI_of (q 98 52 (by omega)), vI_of (q 134 k (by omega)), vI_of (q 134 (k - 1) (by omega))]
/-- all rows that are wanted are made ready -/
theorem readyAll {m : qM} (h : RAll m) (hb : vI m 98 33 = 1) (N : Nat) (hN : vI m 98 52 = N) (f : Int32) (Q : Int32 → qM → Prop) (hk : ∀ w, RAll w → Fr evF m w → (∀ j, j ≤ N → cpl m j → vI w 83 j ≠ 0) → wp (qbI (fX1_messagesTo f w) (fun x5 m6 => some (x5, m6))) Q) : ∀ (r k g : Nat) (w : qM), k + r = N + 1 → r < g → RAll w → Fr evF m w → (∀ j, j < k → cpl m j → vI w 83 j ≠ 0) → wp (fX11_messages_12 g f (Zi k) w) Q := by
  have n80 := h.1.2.2.2.1.2.2.1
  intro r
  induction r with
  | zero =>
    intro k g w hk' hg A hF hd
    obtain ⟨g, rfl⟩ : ∃ g', g = g' + 1 := ⟨g - 1, by omega⟩
    have w5 : vI w 74 5 = N := by rw [A.1.2.2.2.1.1, hF.v 98 52 (by unfold evF; omega), hN]
    have n := hk w A hF (fun j hj => hd j (by omega))
    simp (disch := omega) only [fX11_messages_12, fX9_size_d, fX9_size_0, qbI_s, qbL_s, qbV_s, qbR_s, qbR_n, qbN_s, qbN_n, qbIX_s, qbIX_n, qbVX_s, qbVX_n, cond_true, cond_false, cond_dec, jadd, jsub, jmul, jneg, li_0, li_1, li_2, li_3, li_4, li_5, li_6, li_7, li_8, li_9, li_10, li_14, li_15, li_16, li_19, li_20, li_24, li_30, li_31, li_32, li_39, li_40, li_48, li_57, li_59, li_60, li_63, li_65, li_80, li_81, li_90, li_97, li_99, li_100, li_122, li_126, li_127, li_150, li_160, li_200, li_225, li_255, li_400, li_799, li_800, li_999, li_2400, li_3239, li_3240, li_1048575, li_1431655765, li_858993459, li_252645135, eqb_j, ltb_j, leb_j, inb_j, ix_j, ix_n, nz_b, nz_0, nz_1, eqb_b, bnot, vI_ne, vI_eq, gIL, gLI, gIR, gRI, gLR, gRL, Int.reduceLT, Int.reduceLE, Int.reduceEq, Int.reduceAdd, Int.reduceSub, Int.reduceMul, Int.reduceNeg, Int.reduceToNat, Nat.reduceEqDiff, reduceIte, if_neg, if_pos, gI_ne, gIv 74, w5]
    exact n
  | succ r ih =>
    intro k g w hk' hg A hF hd
    obtain ⟨g, rfl⟩ : ∃ g', g = g' + 1 := ⟨g - 1, by omega⟩
    have w52 : vI w 98 52 = N := by rw [hF.v 98 52 (by unfold evF; omega), hN]
    have w5 : vI w 74 5 = N := by rw [A.1.2.2.2.1.1, w52]
    have ar := areAll_s A.1.2.2.2.1 k (by omega)
    have cg := cpl_cg (m := m) (m' := w) (fun c k hc => hF.1 c k (by unfold evF; omega)) k
    by_cases c : cpl m k
    · rw [pd_t (cg.mpr c)] at ar
      obtain ⟨x1, w1, e1, F1, A1, d1, kp⟩ := ready_s A (by rw [hF.v 98 33 (by unfold evF; omega)]; exact hb) k (by omega) (by omega)
      have n := ih (k + 1) g w1 (by omega) (by omega) A1 (hF.tr F1) (fun j hj hc => by
        by_cases e : j = k
        · rw [e]; exact d1
        · exact (kp j (by omega) (hd j (by omega) hc)).1)
      simp (disch := omega) only [fX11_messages_12, fX11_messages_26, fX9_size_d, fX9_size_0, qbI_s, qbL_s, qbV_s, qbR_s, qbR_n, qbN_s, qbN_n, qbIX_s, qbIX_n, qbVX_s, qbVX_n, cond_true, cond_false, cond_dec, jadd, jsub, jmul, jneg, li_0, li_1, li_2, li_3, li_4, li_5, li_6, li_7, li_8, li_9, li_10, li_14, li_15, li_16, li_19, li_20, li_24, li_30, li_31, li_32, li_39, li_40, li_48, li_57, li_59, li_60, li_63, li_65, li_80, li_81, li_90, li_97, li_99, li_100, li_122, li_126, li_127, li_150, li_160, li_200, li_225, li_255, li_400, li_799, li_800, li_999, li_2400, li_3239, li_3240, li_1048575, li_1431655765, li_858993459, li_252645135, eqb_j, ltb_j, leb_j, inb_j, ix_j, ix_n, nz_b, nz_0, nz_1, eqb_b, bnot, vI_ne, vI_eq, gIL, gLI, gIR, gRI, gLR, gRL, Int.reduceLT, Int.reduceLE, Int.reduceEq, Int.reduceAdd, Int.reduceSub, Int.reduceMul, Int.reduceNeg, Int.reduceToNat, Nat.reduceEqDiff, reduceIte, if_neg, if_pos, gI_ne, gIv 74, w5, ar, e1, show bI true = 1 from rfl]
      exact n
    · rw [pd_f (fun z => c (cg.mp z))] at ar
      have n := ih (k + 1) g w (by omega) (by omega) A hF (fun j hj hc => by
        by_cases e : j = k
        · rw [e] at hc; exact absurd hc c
        · exact hd j (by omega) hc)
      simp (disch := omega) only [fX11_messages_12, fX11_messages_26, fX9_size_d, fX9_size_0, qbI_s, qbL_s, qbV_s, qbR_s, qbR_n, qbN_s, qbN_n, qbIX_s, qbIX_n, qbVX_s, qbVX_n, cond_true, cond_false, cond_dec, jadd, jsub, jmul, jneg, li_0, li_1, li_2, li_3, li_4, li_5, li_6, li_7, li_8, li_9, li_10, li_14, li_15, li_16, li_19, li_20, li_24, li_30, li_31, li_32, li_39, li_40, li_48, li_57, li_59, li_60, li_63, li_65, li_80, li_81, li_90, li_97, li_99, li_100, li_122, li_126, li_127, li_150, li_160, li_200, li_225, li_255, li_400, li_799, li_800, li_999, li_2400, li_3239, li_3240, li_1048575, li_1431655765, li_858993459, li_252645135, eqb_j, ltb_j, leb_j, inb_j, ix_j, ix_n, nz_b, nz_0, nz_1, eqb_b, bnot, vI_ne, vI_eq, gIL, gLI, gIR, gRI, gLR, gRL, Int.reduceLT, Int.reduceLE, Int.reduceEq, Int.reduceAdd, Int.reduceSub, Int.reduceMul, Int.reduceNeg, Int.reduceToNat, Nat.reduceEqDiff, reduceIte, if_neg, if_pos, gI_ne, gIv 74, w5, ar, show bI false = 0 from rfl]
      exact n
theorem messB {m : qM} (h : RAll m) (hb : vI m 98 33 = 1) (N : Nat) (hN : vI m 98 52 = N) (hd : ∀ j, j ≤ N → cpl m j → vI m 83 j ≠ 0) (f : Nat) (hf : f < 15) : ∀ (r b : Nat) (cnt : Nat) (v : qM), N - b = r → b ≤ N → cpl m b → cnt ≤ b → (∀ c k, ¬ (139 ≤ c ∧ c ≤ 150 ∨ c = 98 ∧ k = 70) → gI v c k = gI m c k) → gR v = gR m → ∃ x, (∀ g, N - b < g → fX1_messagesTo_6 g (Zi f) (Zi cnt) (Zi b) (Zi ((b : Int) + 1)) m = some (Zi x, m)) ∧ ∃ v', (∀ g, N - b < g → fX13_messages_14 g (Zi f) (Zi cnt) (Zi b) v = some (Zi x, v')) ∧ (∀ c k, ¬ (139 ≤ c ∧ c ≤ 150 ∨ c = 98 ∧ k = 70) → gI v' c k = gI m c k) ∧ gR v' = gR m := by
  have hTe := h.1.2.2.2.1
  obtain ⟨e1, e2, e3, e4, e5, e6⟩ := hTe
  have hTe : RTell m := ⟨e1, e2, e3, e4, e5, e6⟩
  have hD := DOk.of (CAll.of h.1)
  have n2 := hD.2.2.2.2.2.1
  intro r
  induction r using Nat.strongRecOn with
  | _ r ih =>
  intro b cnt v hr hbN hcb hcnt hq hg
  have v52 : vI v 98 52 = N := by rw [vI_of (hq 98 52 (by omega)), hN]
  by_cases g0 : b = N
  · refine ⟨cnt, fun g hg' => ?_, v, fun g hg' => ?_, hq, hg⟩
    · obtain ⟨g, rfl⟩ : ∃ g', g = g' + 1 := ⟨g - 1, by omega⟩
      simp (disch := omega) only [fX1_messagesTo_6, fX9_size_d, fX9_size_0, qbI_s, qbL_s, qbV_s, qbR_s, qbR_n, qbN_s, qbN_n, qbIX_s, qbIX_n, qbVX_s, qbVX_n, cond_true, cond_false, cond_dec, jadd, jsub, jmul, jneg, li_0, li_1, li_2, li_3, li_4, li_5, li_6, li_7, li_8, li_9, li_10, li_14, li_15, li_16, li_19, li_20, li_24, li_30, li_31, li_32, li_39, li_40, li_48, li_57, li_59, li_60, li_63, li_65, li_80, li_81, li_90, li_97, li_99, li_100, li_122, li_126, li_127, li_150, li_160, li_200, li_225, li_255, li_400, li_799, li_800, li_999, li_2400, li_3239, li_3240, li_1048575, li_1431655765, li_858993459, li_252645135, eqb_j, ltb_j, leb_j, inb_j, ix_j, ix_n, nz_b, nz_0, nz_1, eqb_b, bnot, vI_ne, vI_eq, gIL, gLI, gIR, gRI, gLR, gRL, Int.reduceLT, Int.reduceLE, Int.reduceEq, Int.reduceAdd, Int.reduceSub, Int.reduceMul, Int.reduceNeg, Int.reduceToNat, Nat.reduceEqDiff, reduceIte, if_neg, if_pos, gI_ne, gIv 74, e1, hN]
    · obtain ⟨g, rfl⟩ : ∃ g', g = g' + 1 := ⟨g - 1, by omega⟩
      simp (disch := omega) only [fX13_messages_14, qbI_s, qbL_s, qbV_s, qbR_s, qbR_n, qbN_s, qbN_n, qbIX_s, qbIX_n, qbVX_s, qbVX_n, cond_true, cond_false, cond_dec, jadd, jsub, jmul, jneg, li_0, li_1, li_2, li_3, li_4, li_5, li_6, li_7, li_8, li_9, li_10, li_14, li_15, li_16, li_19, li_20, li_24, li_30, li_31, li_32, li_39, li_40, li_48, li_57, li_59, li_60, li_63, li_65, li_80, li_81, li_90, li_97, li_99, li_100, li_122, li_126, li_127, li_150, li_160, li_200, li_225, li_255, li_400, li_799, li_800, li_999, li_2400, li_3239, li_3240, li_1048575, li_1431655765, li_858993459, li_252645135, eqb_j, ltb_j, leb_j, inb_j, ix_j, ix_n, nz_b, nz_0, nz_1, eqb_b, bnot, vI_ne, vI_eq, gIL, gLI, gIR, gRI, gLR, gRL, Int.reduceLT, Int.reduceLE, Int.reduceEq, Int.reduceAdd, Int.reduceSub, Int.reduceMul, Int.reduceNeg, Int.reduceToNat, Nat.reduceEqDiff, reduceIte, if_neg, if_pos, gI_ne, gIv 98, v52]
  · -- the next that is complete
    obtain ⟨o, o1, o2, o3⟩ := fb_first (p := fun i => b < i ∧ pd (cpl m i) = true) (n := N + 1) ⟨N, by omega, by omega, pd_t (Or.inr (Or.inl (by omega)))⟩
    have oc : cpl m o := pd_iff.mp o2.2
    have inc : ∀ j, b < j → j < o → vI m 134 j = vI m 134 (j - 1) := fun j h1 h2 => by
      have : ¬ cpl m j := fun z => o3 j h2 ⟨h1, pd_t z⟩
      refine Classical.byContradiction fun z => this (Or.inr (Or.inr z))
    have same : ∀ k j, j = b + k → j < o → vI m 134 j = vI m 134 b := by
      intro k
      induction k with
      | zero => intro j hj _; rw [hj]; rfl
      | succ k ihk =>
        intro j hj hjo
        rw [inc j (by omega) hjo]
        exact ihk (j - 1) (by omega) (by omega)
    obtain ⟨w, hw⟩ : ∃ w : Int, vI m 134 b = w := ⟨_, rfl⟩
    have wr := e5 b (by omega)
    rw [hw] at wr
    have wl : vI m 134 (o - 1) = w := by rw [← hw]; exact same (o - 1 - b) (o - 1) (by omega) (by omega)
    have inb : ∀ j, b < j → j < o → ¬ cpl m j := fun j h1 h2 z => o3 j h2 ⟨h1, pd_t z⟩
    have hdb := hd b (by omega) hcb
    have hdo := hd o (by omega) oc
    -- what is known ahead of the minute, and at it
    have kb : ∀ k, k < b → vI m 134 k ≤ w - 1 := fun k hk => by
      have h1 := e6 k (b - 1) (by omega) (by omega)
      have h2 := e6 (b - 1) b (by omega) (by omega)
      rcases hcb with z | z | z
      · omega
      · omega
      · omega
    have ko : ∀ k, k < o → vI m 134 k ≤ w := fun k hk => by
      have := e6 k (o - 1) (by omega) (by omega)
      omega
    have ko2 : vI m 98 52 = o ∨ w < vI m 134 o := by
      rcases oc with z | z | z
      · omega
      · exact Or.inl z.symm
      · by_cases z2 : (o : Int) = vI m 98 52
        · exact Or.inl z2.symm
        · have := e6 (o - 1) o (by omega) (by omega)
          exact Or.inr (by omega)
    obtain ⟨x1, v1, ev1, F1, q1, gR1, r1⟩ := go_s (v := v) h hb b (by omega) hdb (w - 1) (by omega) kb (Or.inr (by omega)) hq hg
    obtain ⟨z1, nC1, nM1, nq1⟩ := nextB (v := v1) (v' := v1) h b (by omega) hdb f hf w (by omega) q1 (fun a ha => (r1 a ha).1)
    obtain ⟨x2, v2, ev2, F2, q2, gR2, r2⟩ := go_s (v := v1) h hb o (by omega) hdo w (by omega) ko ko2 q1 gR1
    obtain ⟨z2, nC2, nM2, nq2⟩ := nextB (v := v2) (v' := v2) h o (by omega) hdo f hf w (by omega) q2 (fun a ha => (r2 a ha).1)
    have rb := rowR h b (by omega) hdb
    have ro := rowR h o (by omega) hdo
    have z1r : z1 = -1 ∨ ∃ a : Nat, z1 = a ∧ (a : Int) < vI m 98 32 ∧ w < rwS m b a := by
      rcases nq1 with ⟨y1, -⟩ | ⟨a, y1, y2, y3, y4, -⟩
      · exact Or.inl y1
      · exact Or.inr ⟨a, y1, by omega, y4⟩
    have z2r : z2 = -1 ∨ ∃ a : Nat, z2 = a ∧ (a : Int) < vI m 98 32 ∧ w < rwS m o a := by
      rcases nq2 with ⟨y1, -⟩ | ⟨a, y1, y2, y3, y4, -⟩
      · exact Or.inl y1
      · exact Or.inr ⟨a, y1, by omega, y4⟩
    -- a message or none
    have msg : ∃ B : Bool, fX1_isMessage (Zi f) (Zi w) (Zi b) (Zi o) m = some (Zi (bI B), m) ∧ ∀ k14, fX13_messages_34 k14 (Zi f) (Zi cnt) (Zi b) (Zi w) v = k14 (Zi f) (Zi ((cnt : Int) + bI B)) (Zi ((b : Int) + 1)) v2 := by
      have nC1' : ∀ y : qM, y = m → fX1_nextOf (Zi f) (Zi w) (Zi b) y = some (Zi z1, y) := fun y hy => by rw [hy]; exact nC1
      by_cases c1 : z1 = z2
      · subst c1
        rcases z1r with y | ⟨a, y1, y2, y3⟩
        · refine ⟨false, ?_, fun k14 => ?_⟩
          · rw [fX1_isMessage_d]
            rw [y] at nC1 nC2
            simp (disch := omega) only [fX1_isMessage_0, fX1_isMessage_33, fX1_isMessage_34, qbI_s, qbL_s, qbV_s, qbR_s, qbR_n, qbN_s, qbN_n, qbIX_s, qbIX_n, qbVX_s, qbVX_n, cond_true, cond_false, cond_dec, jadd, jsub, jmul, jneg, li_0, li_1, li_2, li_3, li_4, li_5, li_6, li_7, li_8, li_9, li_10, li_14, li_15, li_16, li_19, li_20, li_24, li_30, li_31, li_32, li_39, li_40, li_48, li_57, li_59, li_60, li_63, li_65, li_80, li_81, li_90, li_97, li_99, li_100, li_122, li_126, li_127, li_150, li_160, li_200, li_225, li_255, li_400, li_799, li_800, li_999, li_2400, li_3239, li_3240, li_1048575, li_1431655765, li_858993459, li_252645135, eqb_j, ltb_j, leb_j, inb_j, ix_j, ix_n, nz_b, nz_0, nz_1, eqb_b, bnot, vI_ne, vI_eq, gIL, gLI, gIR, gRI, gLR, gRL, Int.reduceLT, Int.reduceLE, Int.reduceEq, Int.reduceAdd, Int.reduceSub, Int.reduceMul, Int.reduceNeg, Int.reduceToNat, Nat.reduceEqDiff, reduceIte, if_neg, if_pos, gI_ne, nC1, nC2, show (-1 : Int32) = Zi (-1) from rfl, show bI false = 0 from rfl]
          · rw [y] at nM1 nM2
            simp (disch := omega) only [fX13_messages_34, fX13_messages_53, fX13_messages_80, fX13_messages_81, fX13_messages_83, qbI_s, qbL_s, qbV_s, qbR_s, qbR_n, qbN_s, qbN_n, qbIX_s, qbIX_n, qbVX_s, qbVX_n, cond_true, cond_false, cond_dec, jadd, jsub, jmul, jneg, li_0, li_1, li_2, li_3, li_4, li_5, li_6, li_7, li_8, li_9, li_10, li_14, li_15, li_16, li_19, li_20, li_24, li_30, li_31, li_32, li_39, li_40, li_48, li_57, li_59, li_60, li_63, li_65, li_80, li_81, li_90, li_97, li_99, li_100, li_122, li_126, li_127, li_150, li_160, li_200, li_225, li_255, li_400, li_799, li_800, li_999, li_2400, li_3239, li_3240, li_1048575, li_1431655765, li_858993459, li_252645135, eqb_j, ltb_j, leb_j, inb_j, ix_j, ix_n, nz_b, nz_0, nz_1, eqb_b, bnot, vI_ne, vI_eq, gIL, gLI, gIR, gRI, gLR, gRL, Int.reduceLT, Int.reduceLE, Int.reduceEq, Int.reduceAdd, Int.reduceSub, Int.reduceMul, Int.reduceNeg, Int.reduceToNat, Nat.reduceEqDiff, reduceIte, if_neg, if_pos, gI_ne, ev1, nM1, ev2, nM2, show (-1 : Int32) = Zi (-1) from rfl, show bI false = 0 from rfl]
        · have a40 : a < 40 := by omega
          have sO := startOf_s m b a (by omega) a40
          have tO := startOf_s m o a (by omega) a40
          have ra := (rb a y2).1
          have ta := (ro a y2).1
          have hh := howFar_s (rwS m b a) (rwS m o a) ra ta m
          have hr := hfV_r ra ta
          have q141 := (r1 a y2).1
          have p141 := (r2 a y2).1
          have y4 : w < rwS m o a := by
            rcases z2r with z9 | ⟨a', z91, z92, z93⟩
            · omega
            · rw [show a = a' by omega]; exact z93
          have hfe : hfV (rwS m b a) (rwS m o a) = ((rwS m o a - rwS m b a).natAbs : Int) := by
            unfold hfV
            rw [if_neg (by omega)]
            omega
          rw [y1] at nC1 nC2 nM1 nM2
          by_cases c2 : hfV (rwS m b a) (rwS m o a) < 5
          · refine ⟨false, ?_, fun k14 => ?_⟩
            · rw [fX1_isMessage_d]
              simp (disch := omega) only [fX1_isMessage_0, fX1_isMessage_33, fX1_isMessage_34, qbI_s, qbL_s, qbV_s, qbR_s, qbR_n, qbN_s, qbN_n, qbIX_s, qbIX_n, qbVX_s, qbVX_n, cond_true, cond_false, cond_dec, jadd, jsub, jmul, jneg, li_0, li_1, li_2, li_3, li_4, li_5, li_6, li_7, li_8, li_9, li_10, li_14, li_15, li_16, li_19, li_20, li_24, li_30, li_31, li_32, li_39, li_40, li_48, li_57, li_59, li_60, li_63, li_65, li_80, li_81, li_90, li_97, li_99, li_100, li_122, li_126, li_127, li_150, li_160, li_200, li_225, li_255, li_400, li_799, li_800, li_999, li_2400, li_3239, li_3240, li_1048575, li_1431655765, li_858993459, li_252645135, eqb_j, ltb_j, leb_j, inb_j, ix_j, ix_n, nz_b, nz_0, nz_1, eqb_b, bnot, vI_ne, vI_eq, gIL, gLI, gIR, gRI, gLR, gRL, Int.reduceLT, Int.reduceLE, Int.reduceEq, Int.reduceAdd, Int.reduceSub, Int.reduceMul, Int.reduceNeg, Int.reduceToNat, Nat.reduceEqDiff, reduceIte, if_neg, if_pos, gI_ne, nC1, nC2, sO, tO, hh, show (-1 : Int32) = Zi (-1) from rfl, show bI false = 0 from rfl]
            · rw [hfe] at c2
              simp (disch := omega) only [fX13_messages_34, fX13_messages_53, fX13_messages_80, fX13_messages_81, fX13_messages_83, qbI_s, qbL_s, qbV_s, qbR_s, qbR_n, qbN_s, qbN_n, qbIX_s, qbIX_n, qbVX_s, qbVX_n, cond_true, cond_false, cond_dec, jadd, jsub, jmul, jneg, li_0, li_1, li_2, li_3, li_4, li_5, li_6, li_7, li_8, li_9, li_10, li_14, li_15, li_16, li_19, li_20, li_24, li_30, li_31, li_32, li_39, li_40, li_48, li_57, li_59, li_60, li_63, li_65, li_80, li_81, li_90, li_97, li_99, li_100, li_122, li_126, li_127, li_150, li_160, li_200, li_225, li_255, li_400, li_799, li_800, li_999, li_2400, li_3239, li_3240, li_1048575, li_1431655765, li_858993459, li_252645135, eqb_j, ltb_j, leb_j, inb_j, ix_j, ix_n, nz_b, nz_0, nz_1, eqb_b, bnot, vI_ne, vI_eq, gIL, gLI, gIR, gRI, gLR, gRL, Int.reduceLT, Int.reduceLE, Int.reduceEq, Int.reduceAdd, Int.reduceSub, Int.reduceMul, Int.reduceNeg, Int.reduceToNat, Nat.reduceEqDiff, reduceIte, if_neg, if_pos, gI_ne, ev1, nM1, ev2, nM2, gIv 141, q141, p141, abs_s, show (-1 : Int32) = Zi (-1) from rfl, show bI false = 0 from rfl]
          · refine ⟨true, ?_, fun k14 => ?_⟩
            · rw [fX1_isMessage_d]
              simp (disch := omega) only [fX1_isMessage_0, fX1_isMessage_33, fX1_isMessage_34, qbI_s, qbL_s, qbV_s, qbR_s, qbR_n, qbN_s, qbN_n, qbIX_s, qbIX_n, qbVX_s, qbVX_n, cond_true, cond_false, cond_dec, jadd, jsub, jmul, jneg, li_0, li_1, li_2, li_3, li_4, li_5, li_6, li_7, li_8, li_9, li_10, li_14, li_15, li_16, li_19, li_20, li_24, li_30, li_31, li_32, li_39, li_40, li_48, li_57, li_59, li_60, li_63, li_65, li_80, li_81, li_90, li_97, li_99, li_100, li_122, li_126, li_127, li_150, li_160, li_200, li_225, li_255, li_400, li_799, li_800, li_999, li_2400, li_3239, li_3240, li_1048575, li_1431655765, li_858993459, li_252645135, eqb_j, ltb_j, leb_j, inb_j, ix_j, ix_n, nz_b, nz_0, nz_1, eqb_b, bnot, vI_ne, vI_eq, gIL, gLI, gIR, gRI, gLR, gRL, Int.reduceLT, Int.reduceLE, Int.reduceEq, Int.reduceAdd, Int.reduceSub, Int.reduceMul, Int.reduceNeg, Int.reduceToNat, Nat.reduceEqDiff, reduceIte, if_neg, if_pos, gI_ne, nC1, nC2, sO, tO, hh, show (-1 : Int32) = Zi (-1) from rfl, show bI true = 1 from rfl]
            · rw [hfe] at c2
              simp (disch := omega) only [fX13_messages_34, fX13_messages_53, fX13_messages_78, fX13_messages_81, fX13_messages_83, qbI_s, qbL_s, qbV_s, qbR_s, qbR_n, qbN_s, qbN_n, qbIX_s, qbIX_n, qbVX_s, qbVX_n, cond_true, cond_false, cond_dec, jadd, jsub, jmul, jneg, li_0, li_1, li_2, li_3, li_4, li_5, li_6, li_7, li_8, li_9, li_10, li_14, li_15, li_16, li_19, li_20, li_24, li_30, li_31, li_32, li_39, li_40, li_48, li_57, li_59, li_60, li_63, li_65, li_80, li_81, li_90, li_97, li_99, li_100, li_122, li_126, li_127, li_150, li_160, li_200, li_225, li_255, li_400, li_799, li_800, li_999, li_2400, li_3239, li_3240, li_1048575, li_1431655765, li_858993459, li_252645135, eqb_j, ltb_j, leb_j, inb_j, ix_j, ix_n, nz_b, nz_0, nz_1, eqb_b, bnot, vI_ne, vI_eq, gIL, gLI, gIR, gRI, gLR, gRL, Int.reduceLT, Int.reduceLE, Int.reduceEq, Int.reduceAdd, Int.reduceSub, Int.reduceMul, Int.reduceNeg, Int.reduceToNat, Nat.reduceEqDiff, reduceIte, if_neg, if_pos, gI_ne, ev1, nM1, ev2, nM2, gIv 141, q141, p141, abs_s, show (-1 : Int32) = Zi (-1) from rfl, show bI true = 1 from rfl]
      · have zr1 : -1 ≤ z1 ∧ z1 < 40 := by rcases z1r with y | ⟨a, y1, y2, y3⟩ <;> omega
        have zr2 : -1 ≤ z2 ∧ z2 < 40 := by rcases z2r with y | ⟨a, y1, y2, y3⟩ <;> omega
        refine ⟨true, ?_, fun k14 => ?_⟩
        · rw [fX1_isMessage_d]
          simp (disch := omega) only [fX1_isMessage_0, fX1_isMessage_33, fX1_isMessage_34, qbI_s, qbL_s, qbV_s, qbR_s, qbR_n, qbN_s, qbN_n, qbIX_s, qbIX_n, qbVX_s, qbVX_n, cond_true, cond_false, cond_dec, jadd, jsub, jmul, jneg, li_0, li_1, li_2, li_3, li_4, li_5, li_6, li_7, li_8, li_9, li_10, li_14, li_15, li_16, li_19, li_20, li_24, li_30, li_31, li_32, li_39, li_40, li_48, li_57, li_59, li_60, li_63, li_65, li_80, li_81, li_90, li_97, li_99, li_100, li_122, li_126, li_127, li_150, li_160, li_200, li_225, li_255, li_400, li_799, li_800, li_999, li_2400, li_3239, li_3240, li_1048575, li_1431655765, li_858993459, li_252645135, eqb_j, ltb_j, leb_j, inb_j, ix_j, ix_n, nz_b, nz_0, nz_1, eqb_b, bnot, vI_ne, vI_eq, gIL, gLI, gIR, gRI, gLR, gRL, Int.reduceLT, Int.reduceLE, Int.reduceEq, Int.reduceAdd, Int.reduceSub, Int.reduceMul, Int.reduceNeg, Int.reduceToNat, Nat.reduceEqDiff, reduceIte, if_neg, if_pos, gI_ne, nC1, nC2, show bI true = 1 from rfl]
        · rcases z1r with y | ⟨a, y1, y2, y3⟩
          · rw [y] at nM1 c1
            simp (disch := omega) only [fX13_messages_34, fX13_messages_53, fX13_messages_78, fX13_messages_81, fX13_messages_83, qbI_s, qbL_s, qbV_s, qbR_s, qbR_n, qbN_s, qbN_n, qbIX_s, qbIX_n, qbVX_s, qbVX_n, cond_true, cond_false, cond_dec, jadd, jsub, jmul, jneg, li_0, li_1, li_2, li_3, li_4, li_5, li_6, li_7, li_8, li_9, li_10, li_14, li_15, li_16, li_19, li_20, li_24, li_30, li_31, li_32, li_39, li_40, li_48, li_57, li_59, li_60, li_63, li_65, li_80, li_81, li_90, li_97, li_99, li_100, li_122, li_126, li_127, li_150, li_160, li_200, li_225, li_255, li_400, li_799, li_800, li_999, li_2400, li_3239, li_3240, li_1048575, li_1431655765, li_858993459, li_252645135, eqb_j, ltb_j, leb_j, inb_j, ix_j, ix_n, nz_b, nz_0, nz_1, eqb_b, bnot, vI_ne, vI_eq, gIL, gLI, gIR, gRI, gLR, gRL, Int.reduceLT, Int.reduceLE, Int.reduceEq, Int.reduceAdd, Int.reduceSub, Int.reduceMul, Int.reduceNeg, Int.reduceToNat, Nat.reduceEqDiff, reduceIte, if_neg, if_pos, gI_ne, ev1, nM1, ev2, nM2, show (-1 : Int32) = Zi (-1) from rfl, show bI true = 1 from rfl]
          · rw [y1] at nM1 c1 zr1
            have q141 := (r1 a y2).1
            have ra := (rb a y2).1
            simp (disch := omega) only [fX13_messages_34, fX13_messages_53, fX13_messages_78, fX13_messages_81, fX13_messages_83, qbI_s, qbL_s, qbV_s, qbR_s, qbR_n, qbN_s, qbN_n, qbIX_s, qbIX_n, qbVX_s, qbVX_n, cond_true, cond_false, cond_dec, jadd, jsub, jmul, jneg, li_0, li_1, li_2, li_3, li_4, li_5, li_6, li_7, li_8, li_9, li_10, li_14, li_15, li_16, li_19, li_20, li_24, li_30, li_31, li_32, li_39, li_40, li_48, li_57, li_59, li_60, li_63, li_65, li_80, li_81, li_90, li_97, li_99, li_100, li_122, li_126, li_127, li_150, li_160, li_200, li_225, li_255, li_400, li_799, li_800, li_999, li_2400, li_3239, li_3240, li_1048575, li_1431655765, li_858993459, li_252645135, eqb_j, ltb_j, leb_j, inb_j, ix_j, ix_n, nz_b, nz_0, nz_1, eqb_b, bnot, vI_ne, vI_eq, gIL, gLI, gIR, gRI, gLR, gRL, Int.reduceLT, Int.reduceLE, Int.reduceEq, Int.reduceAdd, Int.reduceSub, Int.reduceMul, Int.reduceNeg, Int.reduceToNat, Nat.reduceEqDiff, reduceIte, if_neg, if_pos, gI_ne, ev1, nM1, ev2, nM2, gIv 141, q141, show (-1 : Int32) = Zi (-1) from rfl, show bI true = 1 from rfl]
    obtain ⟨B, mC, mM⟩ := msg
    clear z1r z2r nq1 nq2
    have bB := bI_r B
    obtain ⟨cn, hcn⟩ : ∃ cn : Nat, (cnt : Int) + bI B = cn := ⟨((cnt : Int) + bI B).toNat, by omega⟩
    obtain ⟨x, c1, v', c2, c3, c4⟩ := ih (N - o) (by omega) o cn v2 rfl (by omega) oc (by omega) q2 gR2
    refine ⟨x, fun g hg' => ?_, v', fun g hg' => ?_, c3, c4⟩
    · -- the class: up to the next complete one
      have skip : ∀ (k j g : Nat), j + k = o → b < j → k < g → fX1_messagesTo_6 g (Zi f) (Zi cnt) (Zi b) (Zi j) m = fX1_messagesTo_6 (g - k) (Zi f) (Zi cnt) (Zi b) (Zi o) m := by
        intro k
        induction k with
        | zero =>
          intro j g hj _ _
          rw [show j = o by omega, Nat.sub_zero]
        | succ k ihk =>
          intro j g hj hbj hkg
          obtain ⟨g, rfl⟩ : ∃ g', g = g' + 1 := ⟨g - 1, by omega⟩
          have ar := areAll_s hTe j (by omega)
          rw [pd_f (inb j hbj (by omega))] at ar
          have n := ihk (j + 1) g (by omega) (by omega) (by omega)
          rw [show g + 1 - (k + 1) = g - k by omega, ← n]
          rw [fX1_messagesTo_6]
          simp (disch := omega) only [fX1_messagesTo_31, fX9_size_d, fX9_size_0, qbI_s, qbL_s, qbV_s, qbR_s, qbR_n, qbN_s, qbN_n, qbIX_s, qbIX_n, qbVX_s, qbVX_n, cond_true, cond_false, cond_dec, jadd, jsub, jmul, jneg, li_0, li_1, li_2, li_3, li_4, li_5, li_6, li_7, li_8, li_9, li_10, li_14, li_15, li_16, li_19, li_20, li_24, li_30, li_31, li_32, li_39, li_40, li_48, li_57, li_59, li_60, li_63, li_65, li_80, li_81, li_90, li_97, li_99, li_100, li_122, li_126, li_127, li_150, li_160, li_200, li_225, li_255, li_400, li_799, li_800, li_999, li_2400, li_3239, li_3240, li_1048575, li_1431655765, li_858993459, li_252645135, eqb_j, ltb_j, leb_j, inb_j, ix_j, ix_n, nz_b, nz_0, nz_1, eqb_b, bnot, vI_ne, vI_eq, gIL, gLI, gIR, gRI, gLR, gRL, Int.reduceLT, Int.reduceLE, Int.reduceEq, Int.reduceAdd, Int.reduceSub, Int.reduceMul, Int.reduceNeg, Int.reduceToNat, Nat.reduceEqDiff, reduceIte, if_neg, if_pos, gI_ne, gIv 74, e1, hN, ar, show bI false = 0 from rfl]
          rfl
      have s := skip (o - (b + 1)) (b + 1) g (by omega) (by omega) (by omega)
      rw [show ((b + 1 : Nat) : Int) = (b : Int) + 1 by omega] at s
      rw [s]
      obtain ⟨g', hg9⟩ : ∃ g', g - (o - (b + 1)) = g' + 1 := ⟨g - (o - (b + 1)) - 1, by omega⟩
      rw [hg9]
      have ar := areAll_s hTe o (by omega)
      rw [pd_t oc] at ar
      have mo : fX9_minuteOf (Zi ((o : Int) - 1)) m = some (Zi w, m) := by
        have c := (e4 (o - 1) (by omega)).2.1
        have i1 : ((o : Int) - 1).toNat = o - 1 := by omega
        rw [wl] at c
        rw [fX9_minuteOf_d]
        simp (disch := omega) only [fX9_minuteOf_0, fX9_minuteOf_11, fX9_minuteOf_12, qbI_s, qbL_s, qbV_s, qbR_s, qbR_n, qbN_s, qbN_n, qbIX_s, qbIX_n, qbVX_s, qbVX_n, cond_true, cond_false, cond_dec, jadd, jsub, jmul, jneg, li_0, li_1, li_2, li_3, li_4, li_5, li_6, li_7, li_8, li_9, li_10, li_14, li_15, li_16, li_19, li_20, li_24, li_30, li_31, li_32, li_39, li_40, li_48, li_57, li_59, li_60, li_63, li_65, li_80, li_81, li_90, li_97, li_99, li_100, li_122, li_126, li_127, li_150, li_160, li_200, li_225, li_255, li_400, li_799, li_800, li_999, li_2400, li_3239, li_3240, li_1048575, li_1431655765, li_858993459, li_252645135, eqb_j, ltb_j, leb_j, inb_j, ix_j, ix_n, nz_b, nz_0, nz_1, eqb_b, bnot, vI_ne, vI_eq, gIL, gLI, gIR, gRI, gLR, gRL, Int.reduceLT, Int.reduceLE, Int.reduceEq, Int.reduceAdd, Int.reduceSub, Int.reduceMul, Int.reduceNeg, Int.reduceToNat, Nat.reduceEqDiff, reduceIte, if_neg, if_pos, gI_ne, gIv 74, e1, gIv 76, i1, c]
      have n := c1 g' (by omega)
      rw [← hcn] at n
      cases B
      · rw [show bI false = 0 from rfl, Int.add_zero] at n
        simp (disch := omega) only [fX1_messagesTo_6, fX1_messagesTo_29, fX1_messagesTo_31, fX9_size_d, fX9_size_0, qbI_s, qbL_s, qbV_s, qbR_s, qbR_n, qbN_s, qbN_n, qbIX_s, qbIX_n, qbVX_s, qbVX_n, cond_true, cond_false, cond_dec, jadd, jsub, jmul, jneg, li_0, li_1, li_2, li_3, li_4, li_5, li_6, li_7, li_8, li_9, li_10, li_14, li_15, li_16, li_19, li_20, li_24, li_30, li_31, li_32, li_39, li_40, li_48, li_57, li_59, li_60, li_63, li_65, li_80, li_81, li_90, li_97, li_99, li_100, li_122, li_126, li_127, li_150, li_160, li_200, li_225, li_255, li_400, li_799, li_800, li_999, li_2400, li_3239, li_3240, li_1048575, li_1431655765, li_858993459, li_252645135, eqb_j, ltb_j, leb_j, inb_j, ix_j, ix_n, nz_b, nz_0, nz_1, eqb_b, bnot, vI_ne, vI_eq, gIL, gLI, gIR, gRI, gLR, gRL, Int.reduceLT, Int.reduceLE, Int.reduceEq, Int.reduceAdd, Int.reduceSub, Int.reduceMul, Int.reduceNeg, Int.reduceToNat, Nat.reduceEqDiff, reduceIte, if_neg, if_pos, gI_ne, gIv 74, e1, hN, ar, mo, mC, show bI true = 1 from rfl, show bI false = 0 from rfl]
        exact n
      · rw [show bI true = 1 from rfl] at n
        simp (disch := omega) only [fX1_messagesTo_6, fX1_messagesTo_29, fX1_messagesTo_31, fX9_size_d, fX9_size_0, qbI_s, qbL_s, qbV_s, qbR_s, qbR_n, qbN_s, qbN_n, qbIX_s, qbIX_n, qbVX_s, qbVX_n, cond_true, cond_false, cond_dec, jadd, jsub, jmul, jneg, li_0, li_1, li_2, li_3, li_4, li_5, li_6, li_7, li_8, li_9, li_10, li_14, li_15, li_16, li_19, li_20, li_24, li_30, li_31, li_32, li_39, li_40, li_48, li_57, li_59, li_60, li_63, li_65, li_80, li_81, li_90, li_97, li_99, li_100, li_122, li_126, li_127, li_150, li_160, li_200, li_225, li_255, li_400, li_799, li_800, li_999, li_2400, li_3239, li_3240, li_1048575, li_1431655765, li_858993459, li_252645135, eqb_j, ltb_j, leb_j, inb_j, ix_j, ix_n, nz_b, nz_0, nz_1, eqb_b, bnot, vI_ne, vI_eq, gIL, gLI, gIR, gRI, gLR, gRL, Int.reduceLT, Int.reduceLE, Int.reduceEq, Int.reduceAdd, Int.reduceSub, Int.reduceMul, Int.reduceNeg, Int.reduceToNat, Nat.reduceEqDiff, reduceIte, if_neg, if_pos, gI_ne, gIv 74, e1, hN, ar, mo, mC, show bI true = 1 from rfl]
        exact n
    · -- the reference
      obtain ⟨g, rfl⟩ : ∃ g', g = g' + 1 := ⟨g - 1, by omega⟩
      have skip : ∀ (k j g : Nat), j + k = o → b < j → k < g → fX13_messages_14 g (Zi f) (Zi cn) (Zi j) v2 = fX13_messages_14 (g - k) (Zi f) (Zi cn) (Zi o) v2 := by
        intro k
        induction k with
        | zero =>
          intro j g hj _ _
          rw [show j = o by omega, Nat.sub_zero]
        | succ k ihk =>
          intro j g hj hbj hkg
          obtain ⟨g, rfl⟩ : ∃ g', g = g' + 1 := ⟨g - 1, by omega⟩
          have v252 : vI v2 98 52 = N := by rw [vI_of (q2 98 52 (by omega)), hN]
          have i1 : ((j : Int) - 1).toNat = j - 1 := by omega
          have a1 : vI v2 134 j = vI m 134 j := vI_of (q2 134 j (by omega))
          have a2 : vI v2 134 (j - 1) = vI m 134 (j - 1) := vI_of (q2 134 (j - 1) (by omega))
          have a3 := inc j hbj (by omega)
          have a4 := e5 j (by omega)
          rw [a3] at a1
          have n := ihk (j + 1) g (by omega) (by omega) (by omega)
          rw [show g + 1 - (k + 1) = g - k by omega, ← n]
          rw [fX13_messages_14]
          simp (disch := omega) only [fX13_messages_83, qbI_s, qbL_s, qbV_s, qbR_s, qbR_n, qbN_s, qbN_n, qbIX_s, qbIX_n, qbVX_s, qbVX_n, cond_true, cond_false, cond_dec, jadd, jsub, jmul, jneg, li_0, li_1, li_2, li_3, li_4, li_5, li_6, li_7, li_8, li_9, li_10, li_14, li_15, li_16, li_19, li_20, li_24, li_30, li_31, li_32, li_39, li_40, li_48, li_57, li_59, li_60, li_63, li_65, li_80, li_81, li_90, li_97, li_99, li_100, li_122, li_126, li_127, li_150, li_160, li_200, li_225, li_255, li_400, li_799, li_800, li_999, li_2400, li_3239, li_3240, li_1048575, li_1431655765, li_858993459, li_252645135, eqb_j, ltb_j, leb_j, inb_j, ix_j, ix_n, nz_b, nz_0, nz_1, eqb_b, bnot, vI_ne, vI_eq, gIL, gLI, gIR, gRI, gLR, gRL, Int.reduceLT, Int.reduceLE, Int.reduceEq, Int.reduceAdd, Int.reduceSub, Int.reduceMul, Int.reduceNeg, Int.reduceToNat, Nat.reduceEqDiff, reduceIte, if_neg, if_pos, gI_ne, gIv 98, v252, gIv 134, i1, a1, a2]
          rfl
      have vb : vI v 134 b = w := by rw [vI_of (hq 134 b (by omega)), hw]
      have n := c2 (g - (o - (b + 1))) (by omega)
      have s := skip (o - (b + 1)) (b + 1) g (by omega) (by omega) (by omega)
      have mk := mM (fX13_messages_14 g)
      rw [hcn, show (b : Int) + 1 = ((b + 1 : Nat) : Int) by omega, s, n] at mk
      by_cases gb : b = 0
      · subst gb
        simp (disch := omega) only [fX13_messages_14, qbI_s, qbL_s, qbV_s, qbR_s, qbR_n, qbN_s, qbN_n, qbIX_s, qbIX_n, qbVX_s, qbVX_n, cond_true, cond_false, cond_dec, jadd, jsub, jmul, jneg, li_0, li_1, li_2, li_3, li_4, li_5, li_6, li_7, li_8, li_9, li_10, li_14, li_15, li_16, li_19, li_20, li_24, li_30, li_31, li_32, li_39, li_40, li_48, li_57, li_59, li_60, li_63, li_65, li_80, li_81, li_90, li_97, li_99, li_100, li_122, li_126, li_127, li_150, li_160, li_200, li_225, li_255, li_400, li_799, li_800, li_999, li_2400, li_3239, li_3240, li_1048575, li_1431655765, li_858993459, li_252645135, eqb_j, ltb_j, leb_j, inb_j, ix_j, ix_n, nz_b, nz_0, nz_1, eqb_b, bnot, vI_ne, vI_eq, gIL, gLI, gIR, gRI, gLR, gRL, Int.reduceLT, Int.reduceLE, Int.reduceEq, Int.reduceAdd, Int.reduceSub, Int.reduceMul, Int.reduceNeg, Int.reduceToNat, Nat.reduceEqDiff, reduceIte, if_neg, if_pos, gI_ne, gIv 98, v52, gIv 134, vb]
        exact mk
      · have i1 : ((b : Int) - 1).toNat = b - 1 := by omega
        have a2 : vI v 134 (b - 1) = vI m 134 (b - 1) := vI_of (hq 134 (b - 1) (by omega))
        have a3 := kb (b - 1) (by omega)
        have a4 := e5 (b - 1) (by omega)
        simp (disch := omega) only [fX13_messages_14, qbI_s, qbL_s, qbV_s, qbR_s, qbR_n, qbN_s, qbN_n, qbIX_s, qbIX_n, qbVX_s, qbVX_n, cond_true, cond_false, cond_dec, jadd, jsub, jmul, jneg, li_0, li_1, li_2, li_3, li_4, li_5, li_6, li_7, li_8, li_9, li_10, li_14, li_15, li_16, li_19, li_20, li_24, li_30, li_31, li_32, li_39, li_40, li_48, li_57, li_59, li_60, li_63, li_65, li_80, li_81, li_90, li_97, li_99, li_100, li_122, li_126, li_127, li_150, li_160, li_200, li_225, li_255, li_400, li_799, li_800, li_999, li_2400, li_3239, li_3240, li_1048575, li_1431655765, li_858993459, li_252645135, eqb_j, ltb_j, leb_j, inb_j, ix_j, ix_n, nz_b, nz_0, nz_1, eqb_b, bnot, vI_ne, vI_eq, gIL, gLI, gIR, gRI, gLR, gRL, Int.reduceLT, Int.reduceLE, Int.reduceEq, Int.reduceAdd, Int.reduceSub, Int.reduceMul, Int.reduceNeg, Int.reduceToNat, Nat.reduceEqDiff, reduceIte, if_neg, if_pos, gI_ne, gIv 98, v52, gIv 134, i1, vb, a2]
        exact mk
theorem op_messages (m : qM) (h : RAll m) (a : Int) (ha0 : -2147483648 ≤ a ∧ a < 2147483648) : QAll m (fX11_messages (Zi a)) (fX13_messages (Zi a)) := by
  have hR := h.1
  have hR' := hR
  obtain ⟨⟨hT, hRd, hRu, hFo, hHa⟩, ⟨hPt, hPf, hAp, hWk⟩, ⟨hAs, hPa, hCl, hDi, hBi, hCn⟩, ⟨hTe, hBe, hNo, hPo⟩⟩ := hR'
  have b1 := hBe.1
  have b2 := hBe.2.1
  have bf : bI false = 0 := rfl
  have btr : bI true = 1 := rfl
  have n52 : 0 ≤ vI m 98 52 ∧ vI m 98 52 ≤ 80 := ⟨hTe.2.1, hTe.2.2.1⟩
  have fC := fR_s a ha0 m
  have fM := fM_s a ha0 m
  by_cases g1 : 0 ≤ a ∧ a ≤ 14
  · rw [decide_eq_true g1] at fC fM
    by_cases gb : vI m 98 33 = 1
    · obtain ⟨f, rfl⟩ : ∃ f : Nat, a = f := ⟨a.toNat, by omega⟩
      obtain ⟨N, hN⟩ : ∃ N : Nat, vI m 98 52 = N := ⟨(vI m 98 52).toNat, by omega⟩
      have cls : wp (fX11_messages_12 FU (Zi f) (Zi ((0 : Nat) : Int)) m) (fun x m1 => ∃ m2, fX13_messages (Zi f) m1 = some (x, m2) ∧ RAll m2) := by
        refine readyAll h gb N hN (Zi f) _ (fun w A hF hd => ?_) (N + 1) 0 FU m (by omega) (by rw [FU_d]; omega) h (Fr.rf m) (fun j hj => by omega)
        have wb : vI w 98 33 = 1 := by rw [hF.v 98 33 (by unfold evF; omega)]; exact gb
        have wN : vI w 98 52 = N := by rw [hF.v 98 52 (by unfold evF; omega)]; exact hN
        obtain ⟨x, c1, v', c2, c3, c4⟩ := messB A wb N wN (fun j hj hc => hd j hj ((cpl_cg (fun c k hc => hF.1 c k (by unfold evF; omega)) j).mp hc)) f (by omega) N 0 0 w rfl (Nat.zero_le _) (Or.inl rfl) (Nat.le_refl _) (fun c k _ => rfl) rfl
        have k1 := c1 FU (by rw [FU_d]; omega)
        have k2 := c2 FU (by rw [FU_d]; omega)
        have fM1 := fM_s f ha0 w
        rw [decide_eq_true g1] at fM1
        refine wp_e (x := Zi x) (m := w) ?_ ⟨v', ?_, RAll.go A wb c3 c4⟩
        · rw [fX1_messagesTo_d]
          show qbI (fX1_messagesTo_0 (Zi f) w) _ = _
          rw [show fX1_messagesTo_0 (Zi f) w = some (Zi x, w) from k1, qbI_s]
        · rw [fX13_messages_d]
          simp (disch := omega) only [fX13_messages_0, qbI_s, qbL_s, qbV_s, qbR_s, qbR_n, qbN_s, qbN_n, qbIX_s, qbIX_n, qbVX_s, qbVX_n, cond_true, cond_false, cond_dec, jadd, jsub, jmul, jneg, li_0, li_1, li_2, li_3, li_4, li_5, li_6, li_7, li_8, li_9, li_10, li_14, li_15, li_16, li_19, li_20, li_24, li_30, li_31, li_32, li_39, li_40, li_48, li_57, li_59, li_60, li_63, li_65, li_80, li_81, li_90, li_97, li_99, li_100, li_122, li_126, li_127, li_150, li_160, li_200, li_225, li_255, li_400, li_799, li_800, li_999, li_2400, li_3239, li_3240, li_1048575, li_1431655765, li_858993459, li_252645135, eqb_j, ltb_j, leb_j, inb_j, ix_j, ix_n, nz_b, nz_0, nz_1, eqb_b, bnot, vI_ne, vI_eq, gIL, gLI, gIR, gRI, gLR, gRL, Int.reduceLT, Int.reduceLE, Int.reduceEq, Int.reduceAdd, Int.reduceSub, Int.reduceMul, Int.reduceNeg, Int.reduceToNat, Nat.reduceEqDiff, reduceIte, if_neg, if_pos, gI_ne, fM1, gIv 98, wb, btr]
          exact k2
      obtain ⟨x, m1, ee, m2, e2, A2⟩ := cls
      refine ⟨x, m1, m2, ?_, e2, A2⟩
      rw [fX11_messages_d]
      simp (disch := omega) only [fX11_messages_0, qbI_s, qbL_s, qbV_s, qbR_s, qbR_n, qbN_s, qbN_n, qbIX_s, qbIX_n, qbVX_s, qbVX_n, cond_true, cond_false, cond_dec, jadd, jsub, jmul, jneg, li_0, li_1, li_2, li_3, li_4, li_5, li_6, li_7, li_8, li_9, li_10, li_14, li_15, li_16, li_19, li_20, li_24, li_30, li_31, li_32, li_39, li_40, li_48, li_57, li_59, li_60, li_63, li_65, li_80, li_81, li_90, li_97, li_99, li_100, li_122, li_126, li_127, li_150, li_160, li_200, li_225, li_255, li_400, li_799, li_800, li_999, li_2400, li_3239, li_3240, li_1048575, li_1431655765, li_858993459, li_252645135, eqb_j, ltb_j, leb_j, inb_j, ix_j, ix_n, nz_b, nz_0, nz_1, eqb_b, bnot, vI_ne, vI_eq, gIL, gLI, gIR, gRI, gLR, gRL, Int.reduceLT, Int.reduceLE, Int.reduceEq, Int.reduceAdd, Int.reduceSub, Int.reduceMul, Int.reduceNeg, Int.reduceToNat, Nat.reduceEqDiff, reduceIte, if_neg, if_pos, gI_ne, fC, gIv 0, b1, gb, btr]
      exact ee
    · have gb0 : vI m 98 33 = 0 := by omega
      refine QOp.all h (QOp.same (x := Zi (-4)) hR ?_ ?_)
      · rw [fX11_messages_d]
        simp (disch := omega) only [fX11_messages_0, qbI_s, qbL_s, qbV_s, qbR_s, qbR_n, qbN_s, qbN_n, qbIX_s, qbIX_n, qbVX_s, qbVX_n, cond_true, cond_false, cond_dec, jadd, jsub, jmul, jneg, li_0, li_1, li_2, li_3, li_4, li_5, li_6, li_7, li_8, li_9, li_10, li_14, li_15, li_16, li_19, li_20, li_24, li_30, li_31, li_32, li_39, li_40, li_48, li_57, li_59, li_60, li_63, li_65, li_80, li_81, li_90, li_97, li_99, li_100, li_122, li_126, li_127, li_150, li_160, li_200, li_225, li_255, li_400, li_799, li_800, li_999, li_2400, li_3239, li_3240, li_1048575, li_1431655765, li_858993459, li_252645135, eqb_j, ltb_j, leb_j, inb_j, ix_j, ix_n, nz_b, nz_0, nz_1, eqb_b, bnot, vI_ne, vI_eq, gIL, gLI, gIR, gRI, gLR, gRL, Int.reduceLT, Int.reduceLE, Int.reduceEq, Int.reduceAdd, Int.reduceSub, Int.reduceMul, Int.reduceNeg, Int.reduceToNat, Nat.reduceEqDiff, reduceIte, if_neg, if_pos, gI_ne, fC, gIv 0, b1, gb0, btr, show (-4 : Int32) = Zi (-4) from rfl]
      · rw [fX13_messages_d]
        simp (disch := omega) only [fX13_messages_0, qbI_s, qbL_s, qbV_s, qbR_s, qbR_n, qbN_s, qbN_n, qbIX_s, qbIX_n, qbVX_s, qbVX_n, cond_true, cond_false, cond_dec, jadd, jsub, jmul, jneg, li_0, li_1, li_2, li_3, li_4, li_5, li_6, li_7, li_8, li_9, li_10, li_14, li_15, li_16, li_19, li_20, li_24, li_30, li_31, li_32, li_39, li_40, li_48, li_57, li_59, li_60, li_63, li_65, li_80, li_81, li_90, li_97, li_99, li_100, li_122, li_126, li_127, li_150, li_160, li_200, li_225, li_255, li_400, li_799, li_800, li_999, li_2400, li_3239, li_3240, li_1048575, li_1431655765, li_858993459, li_252645135, eqb_j, ltb_j, leb_j, inb_j, ix_j, ix_n, nz_b, nz_0, nz_1, eqb_b, bnot, vI_ne, vI_eq, gIL, gLI, gIR, gRI, gLR, gRL, Int.reduceLT, Int.reduceLE, Int.reduceEq, Int.reduceAdd, Int.reduceSub, Int.reduceMul, Int.reduceNeg, Int.reduceToNat, Nat.reduceEqDiff, reduceIte, if_neg, if_pos, gI_ne, fM, gIv 98, gb0, btr, show (-4 : Int32) = Zi (-4) from rfl]
  · rw [decide_eq_false g1] at fC fM
    refine QOp.all h (QOp.same (x := Zi (-2)) hR ?_ ?_)
    · rw [fX11_messages_d]
      simp (disch := omega) only [fX11_messages_0, qbI_s, qbL_s, qbV_s, qbR_s, qbR_n, qbN_s, qbN_n, qbIX_s, qbIX_n, qbVX_s, qbVX_n, cond_true, cond_false, cond_dec, jadd, jsub, jmul, jneg, li_0, li_1, li_2, li_3, li_4, li_5, li_6, li_7, li_8, li_9, li_10, li_14, li_15, li_16, li_19, li_20, li_24, li_30, li_31, li_32, li_39, li_40, li_48, li_57, li_59, li_60, li_63, li_65, li_80, li_81, li_90, li_97, li_99, li_100, li_122, li_126, li_127, li_150, li_160, li_200, li_225, li_255, li_400, li_799, li_800, li_999, li_2400, li_3239, li_3240, li_1048575, li_1431655765, li_858993459, li_252645135, eqb_j, ltb_j, leb_j, inb_j, ix_j, ix_n, nz_b, nz_0, nz_1, eqb_b, bnot, vI_ne, vI_eq, gIL, gLI, gIR, gRI, gLR, gRL, Int.reduceLT, Int.reduceLE, Int.reduceEq, Int.reduceAdd, Int.reduceSub, Int.reduceMul, Int.reduceNeg, Int.reduceToNat, Nat.reduceEqDiff, reduceIte, if_neg, if_pos, gI_ne, fC, bf, show (-2 : Int32) = Zi (-2) from rfl]
    · rw [fX13_messages_d]
      simp (disch := omega) only [fX13_messages_0, qbI_s, qbL_s, qbV_s, qbR_s, qbR_n, qbN_s, qbN_n, qbIX_s, qbIX_n, qbVX_s, qbVX_n, cond_true, cond_false, cond_dec, jadd, jsub, jmul, jneg, li_0, li_1, li_2, li_3, li_4, li_5, li_6, li_7, li_8, li_9, li_10, li_14, li_15, li_16, li_19, li_20, li_24, li_30, li_31, li_32, li_39, li_40, li_48, li_57, li_59, li_60, li_63, li_65, li_80, li_81, li_90, li_97, li_99, li_100, li_122, li_126, li_127, li_150, li_160, li_200, li_225, li_255, li_400, li_799, li_800, li_999, li_2400, li_3239, li_3240, li_1048575, li_1431655765, li_858993459, li_252645135, eqb_j, ltb_j, leb_j, inb_j, ix_j, ix_n, nz_b, nz_0, nz_1, eqb_b, bnot, vI_ne, vI_eq, gIL, gLI, gIR, gRI, gLR, gRL, Int.reduceLT, Int.reduceLE, Int.reduceEq, Int.reduceAdd, Int.reduceSub, Int.reduceMul, Int.reduceNeg, Int.reduceToNat, Nat.reduceEqDiff, reduceIte, if_neg, if_pos, gI_ne, fM, bf, show (-2 : Int32) = Zi (-2) from rfl]
