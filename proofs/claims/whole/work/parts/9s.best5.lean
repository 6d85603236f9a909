/-! the reference: what all that is laid is worth, kept and compared -/
noncomputable def vV (d : Dt) (k : Nat) : Int := if k = 0 then (vM d : Int) else if k = 1 then (vA d : Int) else if k = 2 then (vW d : Int) else vP d
theorem val_mono {d d' : Dt} (q : ∀ c k, dP c k → d' c k = d c k) : vM d' = vM d ∧ vA d' = vA d ∧ vW d' = vW d ∧ vP d' = vP d := by
  have q' : ∀ c k, (c = 98 ∧ k = 32 ∨ c = 99 ∨ 112 ≤ c ∧ c ≤ 126) → d' c k = d c k := q
  refine ⟨?_, ?_, ?_, ?_⟩
  · unfold vM isLd
    simp (disch := omega) only [q']
  · unfold vA isLd
    simp (disch := omega) only [q']
  · have e : ∀ f, lfB d' f = lfB d f := fun f => by
      funext k
      unfold lfB laidF
      simp (disch := omega) only [q']
    unfold vW gapD
    simp only [e]
  · unfold vP ptV
    simp (disch := omega) only [q']
theorem CClash.mono {m m' : qM} {d d' : Dt} (h : CClash m d) (q : ∀ c k, dP c k → d' c k = d c k) : CClash m' d' := by
  have q' : ∀ c k, (c = 98 ∧ k = 32 ∨ c = 99 ∨ 112 ≤ c ∧ c ≤ 126) → d' c k = d c k := q
  unfold CClash at h ⊢
  simp (disch := omega) only [q']
  exact h
theorem CClash.up {m m' : qM} {d : Dt} (h : CClash m d) (a s : Nat) (ha : (a : Int) < d 98 32) (hN : NC d a s) : CClash m' (upS d a s) := by
  intro x y hx hy hxy h1 h2
  have q : ∀ c k, ¬ c = 125 → (upS d a s) c k = d c k := fun c k hc => upS_ne d a s hc
  simp (disch := omega) only [q] at hx hy ⊢
  rw [upS_eq] at h1 h2
  rw [upS_eq] at h2
  by_cases ex : x = a
  · rw [if_pos ex, if_neg (by omega)] at h2
    have := hN y hy (by omega) h2.symm
    rw [ex]
    exact ⟨fun z => this.1 z.symm, fun z => this.2.1 z.symm, fun z => this.2.2 ⟨z.1, z.2.symm⟩⟩
  · rw [if_neg ex] at h1 h2
    by_cases ey : y = a
    · rw [if_pos ey] at h2
      have := hN x hx ex h2
      rw [ey]
      exact ⟨this.1, this.2.1, fun z => this.2.2 ⟨by omega, z.2⟩⟩
    · rw [if_neg ey] at h2
      exact h x y hx hy hxy h1 h2
theorem Reach.cl {m : qM} {d0 : Dt} {p : Nat → Nat} {al : Nat → Bool} {N : Nat} (hP : Pk d0 p N) (hCl : CClash m d0) : ∀ (i : Nat) (d : Dt), i ≤ N → Reach d0 p al i d → CClash m d := by
  intro i
  induction i with
  | zero =>
    intro d hi h
    have h' : d = d0 := h
    rw [h']
    exact hCl
  | succ i ih =>
    intro d hi h
    obtain ⟨d', r1, r2⟩ := h
    have c := ih d' (by omega) r1
    rcases r2 with r2 | ⟨s, s1, s2, s3, r2⟩
    · rw [r2]; exact c
    · rw [r2]
      exact c.up _ _ (r1.un hP (by omega)).2 (NC.of_mb s2)
theorem vV_r (d : Dt) (hD : DOk d) (k : Nat) : 0 ≤ vV d k ∧ vV d k ≤ 480 := by
  have h := val_r d hD
  unfold vV
  split
  · omega
  · split
    · omega
    · split <;> omega
theorem valM (m : qM) (d : Dt) (hD : DOk d) (hCl : CClash m d) (q : ∀ c k, dP c k → vI m c k = d c k) (k : Nat) (hk : k < 4) : fX13_valueOf (Zi k) m = some (Zi (vV d k), m) := by
  have hM := MOk.ofD hD q
  obtain ⟨e1, e2, e3, e4⟩ := val_mono q
  rcases (show k = 0 ∨ k = 1 ∨ k = 2 ∨ k = 3 by omega) with h | h | h | h
  · rw [h, show vV d 0 = (vM d : Int) from rfl, ← e1]
    exact valueOf0 m hM
  · rw [h, show vV d 1 = (vA d : Int) from rfl, ← e2]
    exact valueOf1 m hM
  · rw [h, show vV d 2 = (vW d : Int) from rfl, ← e3]
    exact valueOf2 m hM (hCl.mono q)
  · rw [h, show vV d 3 = vP d from rfl, ← e4]
    exact valueOf3 m hM
theorem valNow_s (m : qM) (d : Dt) (hD : DOk d) (hCl : CClash m d) (q : ∀ c k, dP c k → vI m c k = d c k) : wp (fX13_valueNow m) (fun _ m' => (∀ k, k < 4 → vI m' 128 k = vV d k) ∧ Fr (fun c _ => c = 128) m m') := by
  have key : ∀ (r i g : Nat) (w : qM), i + r = 4 → r < g → Fr (fun c _ => c = 128) m w → (∀ k, k < i → vI w 128 k = vV d k) → wp (fX13_valueNow_2 g (Zi i) w) (fun _ m' => (∀ k, k < 4 → vI m' 128 k = vV d k) ∧ Fr (fun c _ => c = 128) m m') := by
    intro r
    induction r with
    | zero =>
      intro i g w hi hg hF h
      obtain ⟨g, rfl⟩ : ∃ g', g = g' + 1 := ⟨g - 1, by omega⟩
      refine wp_e (x := ()) (m := w) ?_ ⟨fun k hk => h k (by omega), hF⟩
      simp (disch := omega) only [fX13_valueNow_2, qbI_s, qbL_s, qbV_s, qbR_s, qbR_n, qbN_s, qbN_n, qbIX_s, qbIX_n, qbVX_s, qbVX_n, cond_true, cond_false, cond_dec, jadd, jsub, jmul, jneg, li_0, li_1, li_2, li_3, li_4, li_5, li_6, li_7, li_8, li_9, li_10, li_14, li_15, li_16, li_19, li_20, li_24, li_30, li_31, li_32, li_39, li_40, li_48, li_57, li_59, li_60, li_63, li_65, li_80, li_81, li_90, li_97, li_99, li_100, li_122, li_126, li_127, li_150, li_160, li_200, li_225, li_255, li_400, li_799, li_800, li_999, li_2400, li_3239, li_3240, li_1048575, li_1431655765, li_858993459, li_252645135, eqb_j, ltb_j, leb_j, inb_j, ix_j, ix_n, nz_b, nz_0, nz_1, eqb_b, bnot, vI_ne, vI_eq, gIL, gLI, gIR, gRI, gLR, gRL, Int.reduceLT, Int.reduceLE, Int.reduceEq, Int.reduceAdd, Int.reduceSub, Int.reduceMul, Int.reduceNeg, Int.reduceToNat, Nat.reduceEqDiff, reduceIte, if_neg, if_pos, gI_ne]
    | succ r ih =>
      intro i g w hi hg hF h
      obtain ⟨g, rfl⟩ : ∃ g', g = g' + 1 := ⟨g - 1, by omega⟩
      have vr := vV_r d hD i
      have hv := valM w d hD hCl (fun c k hc => by rw [hF.v c k (by unfold dP at hc; omega)]; exact q c k hc) i (by omega)
      have nx := ih (i + 1) g (sI w 128 i (Zi (vV d i))) (by omega) (by omega) (hF.wI 128 i _ rfl) (fun k hk => by
        by_cases e : k = i
        · rw [e]
          simp (disch := omega) only [qbI_s, qbL_s, qbV_s, qbR_s, qbR_n, qbN_s, qbN_n, qbIX_s, qbIX_n, qbVX_s, qbVX_n, cond_true, cond_false, cond_dec, jadd, jsub, jmul, jneg, li_0, li_1, li_2, li_3, li_4, li_5, li_6, li_7, li_8, li_9, li_10, li_14, li_15, li_16, li_19, li_20, li_24, li_30, li_31, li_32, li_39, li_40, li_48, li_57, li_59, li_60, li_63, li_65, li_80, li_81, li_90, li_97, li_99, li_100, li_122, li_126, li_127, li_150, li_160, li_200, li_225, li_255, li_400, li_799, li_800, li_999, li_2400, li_3239, li_3240, li_1048575, li_1431655765, li_858993459, li_252645135, eqb_j, ltb_j, leb_j, inb_j, ix_j, ix_n, nz_b, nz_0, nz_1, eqb_b, bnot, vI_ne, vI_eq, gIL, gLI, gIR, gRI, gLR, gRL, Int.reduceLT, Int.reduceLE, Int.reduceEq, Int.reduceAdd, Int.reduceSub, Int.reduceMul, Int.reduceNeg, Int.reduceToNat, Nat.reduceEqDiff, reduceIte, if_neg, if_pos, gI_ne]
        · rw [vI_of (show gI (sI w 128 i (Zi (vV d i))) 128 k = gI w 128 k by rw [gI_eq, if_neg e])]
          exact h k (by omega))
      simp (disch := omega) only [fX13_valueNow_2, qbI_s, qbL_s, qbV_s, qbR_s, qbR_n, qbN_s, qbN_n, qbIX_s, qbIX_n, qbVX_s, qbVX_n, cond_true, cond_false, cond_dec, jadd, jsub, jmul, jneg, li_0, li_1, li_2, li_3, li_4, li_5, li_6, li_7, li_8, li_9, li_10, li_14, li_15, li_16, li_19, li_20, li_24, li_30, li_31, li_32, li_39, li_40, li_48, li_57, li_59, li_60, li_63, li_65, li_80, li_81, li_90, li_97, li_99, li_100, li_122, li_126, li_127, li_150, li_160, li_200, li_225, li_255, li_400, li_799, li_800, li_999, li_2400, li_3239, li_3240, li_1048575, li_1431655765, li_858993459, li_252645135, eqb_j, ltb_j, leb_j, inb_j, ix_j, ix_n, nz_b, nz_0, nz_1, eqb_b, bnot, vI_ne, vI_eq, gIL, gLI, gIR, gRI, gLR, gRL, Int.reduceLT, Int.reduceLE, Int.reduceEq, Int.reduceAdd, Int.reduceSub, Int.reduceMul, Int.reduceNeg, Int.reduceToNat, Nat.reduceEqDiff, reduceIte, if_neg, if_pos, gI_ne, hv]
      exact nx
  rw [fX13_valueNow_d]
  simp only [fX13_valueNow_0]
  exact key 4 0 FU m (by omega) (by rw [FU_d]; omega) (Fr.rf m) (fun k hk => by omega)
theorem keepVal_s (m : qM) : wp (fX13_keepValue m) (fun _ m' => (∀ k, k < 4 → vI m' 127 k = vI m 128 k) ∧ Fr (fun c _ => c = 127) m m') := by
  have key : ∀ (r i g : Nat) (w : qM), i + r = 4 → r < g → Fr (fun c _ => c = 127) m w → (∀ k, k < i → vI w 127 k = vI m 128 k) → wp (fX13_keepValue_2 g (Zi i) w) (fun _ m' => (∀ k, k < 4 → vI m' 127 k = vI m 128 k) ∧ Fr (fun c _ => c = 127) m m') := by
    intro r
    induction r with
    | zero =>
      intro i g w hi hg hF h
      obtain ⟨g, rfl⟩ : ∃ g', g = g' + 1 := ⟨g - 1, by omega⟩
      refine wp_e (x := ()) (m := w) ?_ ⟨fun k hk => h k (by omega), hF⟩
      simp (disch := omega) only [fX13_keepValue_2, qbI_s, qbL_s, qbV_s, qbR_s, qbR_n, qbN_s, qbN_n, qbIX_s, qbIX_n, qbVX_s, qbVX_n, cond_true, cond_false, cond_dec, jadd, jsub, jmul, jneg, li_0, li_1, li_2, li_3, li_4, li_5, li_6, li_7, li_8, li_9, li_10, li_14, li_15, li_16, li_19, li_20, li_24, li_30, li_31, li_32, li_39, li_40, li_48, li_57, li_59, li_60, li_63, li_65, li_80, li_81, li_90, li_97, li_99, li_100, li_122, li_126, li_127, li_150, li_160, li_200, li_225, li_255, li_400, li_799, li_800, li_999, li_2400, li_3239, li_3240, li_1048575, li_1431655765, li_858993459, li_252645135, eqb_j, ltb_j, leb_j, inb_j, ix_j, ix_n, nz_b, nz_0, nz_1, eqb_b, bnot, vI_ne, vI_eq, gIL, gLI, gIR, gRI, gLR, gRL, Int.reduceLT, Int.reduceLE, Int.reduceEq, Int.reduceAdd, Int.reduceSub, Int.reduceMul, Int.reduceNeg, Int.reduceToNat, Nat.reduceEqDiff, reduceIte, if_neg, if_pos, gI_ne]
    | succ r ih =>
      intro i g w hi hg hF h
      obtain ⟨g, rfl⟩ : ∃ g', g = g' + 1 := ⟨g - 1, by omega⟩
      have hv := hF.v 128 i (by omega)
      have nx := ih (i + 1) g (sI w 127 i (Zi (vI w 128 i))) (by omega) (by omega) (hF.wI 127 i _ rfl) (fun k hk => by
        by_cases e : k = i
        · rw [e, ← hv]
          show (gI (sI w 127 i (Zi (vI w 128 i))) 127 i).toInt = _
          rw [gI_eq, if_pos rfl, ← gIv 128]
          rfl
        · rw [vI_of (show gI (sI w 127 i (Zi (vI w 128 i))) 127 k = gI w 127 k by rw [gI_eq, if_neg e])]
          exact h k (by omega))
      simp (disch := omega) only [fX13_keepValue_2, qbI_s, qbL_s, qbV_s, qbR_s, qbR_n, qbN_s, qbN_n, qbIX_s, qbIX_n, qbVX_s, qbVX_n, cond_true, cond_false, cond_dec, jadd, jsub, jmul, jneg, li_0, li_1, li_2, li_3, li_4, li_5, li_6, li_7, li_8, li_9, li_10, li_14, li_15, li_16, li_19, li_20, li_24, li_30, li_31, li_32, li_39, li_40, li_48, li_57, li_59, li_60, li_63, li_65, li_80, li_81, li_90, li_97, li_99, li_100, li_122, li_126, li_127, li_150, li_160, li_200, li_225, li_255, li_400, li_799, li_800, li_999, li_2400, li_3239, li_3240, li_1048575, li_1431655765, li_858993459, li_252645135, eqb_j, ltb_j, leb_j, inb_j, ix_j, ix_n, nz_b, nz_0, nz_1, eqb_b, bnot, vI_ne, vI_eq, gIL, gLI, gIR, gRI, gLR, gRL, Int.reduceLT, Int.reduceLE, Int.reduceEq, Int.reduceAdd, Int.reduceSub, Int.reduceMul, Int.reduceNeg, Int.reduceToNat, Nat.reduceEqDiff, reduceIte, if_neg, if_pos, gI_ne, gIv 128]
      exact nx
  rw [fX13_keepValue_d]
  simp only [fX13_keepValue_0]
  exact key 4 0 FU m (by omega) (by rw [FU_d]; omega) (Fr.rf m) (fun k hk => by omega)
theorem isMore_s (m : qM) (d e : Dt) (hD : DOk d) (hE : DOk e) (h1 : ∀ k, k < 4 → vI m 128 k = vV d k) (h2 : ∀ k, k < 4 → vI m 127 k = vV e k) : fX13_isMore m = some (Zi (bI (decide (wD e < wD d))), m) := by
  have rd := val_r d hD
  have re := val_r e hE
  obtain ⟨g, hg⟩ := FU_s 4 (by decide)
  have a0 : vI m 128 0 = vM d := h1 0 (by omega)
  have a1 : vI m 128 1 = vA d := h1 1 (by omega)
  have a2 : vI m 128 2 = vW d := h1 2 (by omega)
  have a3 : vI m 128 3 = vP d := h1 3 (by omega)
  have b0 : vI m 127 0 = vM e := h2 0 (by omega)
  have b1 : vI m 127 1 = vA e := h2 1 (by omega)
  have b2 : vI m 127 2 = vW e := h2 2 (by omega)
  have b3 : vI m 127 3 = vP e := h2 3 (by omega)
  have W1 : wD d = (vM d : Int) * 67108864 + (vA d : Int) * 1048576 - (vW d : Int) * 1024 + vP d := rfl
  have W2 : wD e = (vM e : Int) * 67108864 + (vA e : Int) * 1048576 - (vW e : Int) * 1024 + vP e := rfl
  have fin : ∀ b : Bool, (b = true ↔ wD e < wD d) → bI (decide (wD e < wD d)) = bI b := fun b hb => by
    congr 1
    rw [Bool.eq_iff_iff, decide_eq_true_eq]
    exact hb.symm
  rw [fX13_isMore_d]
  simp only [fX13_isMore_0]
  rw [hg]
  by_cases c0 : (vM d : Int) = vM e
  · by_cases c1 : (vA d : Int) = vA e
    · by_cases c2 : (vW d : Int) = vW e
      · by_cases c3 : vP d = vP e
        · rw [fin false (by constructor <;> intro h <;> first | cases h | omega)]
          simp (disch := omega) only [fX13_isMore_2, fX13_isMore_42, qbI_s, qbL_s, qbV_s, qbR_s, qbR_n, qbN_s, qbN_n, qbIX_s, qbIX_n, qbVX_s, qbVX_n, cond_true, cond_false, cond_dec, jadd, jsub, jmul, jneg, li_0, li_1, li_2, li_3, li_4, li_5, li_6, li_7, li_8, li_9, li_10, li_14, li_15, li_16, li_19, li_20, li_24, li_30, li_31, li_32, li_39, li_40, li_48, li_57, li_59, li_60, li_63, li_65, li_80, li_81, li_90, li_97, li_99, li_100, li_122, li_126, li_127, li_150, li_160, li_200, li_225, li_255, li_400, li_799, li_800, li_999, li_2400, li_3239, li_3240, li_1048575, li_1431655765, li_858993459, li_252645135, eqb_j, ltb_j, leb_j, inb_j, ix_j, ix_n, nz_b, nz_0, nz_1, eqb_b, bnot, vI_ne, vI_eq, gIL, gLI, gIR, gRI, gLR, gRL, Int.reduceLT, Int.reduceLE, Int.reduceEq, Int.reduceAdd, Int.reduceSub, Int.reduceMul, Int.reduceNeg, Int.reduceToNat, Nat.reduceEqDiff, reduceIte, if_neg, if_pos, gI_ne, gIv 128, gIv 127, a0, a1, a2, a3, b0, b1, b2, b3]
          rfl
        · by_cases c4 : vP d ≤ vP e
          · rw [fin false (by constructor <;> intro h <;> first | cases h | omega)]
            simp (disch := omega) only [fX13_isMore_2, fX13_isMore_42, qbI_s, qbL_s, qbV_s, qbR_s, qbR_n, qbN_s, qbN_n, qbIX_s, qbIX_n, qbVX_s, qbVX_n, cond_true, cond_false, cond_dec, jadd, jsub, jmul, jneg, li_0, li_1, li_2, li_3, li_4, li_5, li_6, li_7, li_8, li_9, li_10, li_14, li_15, li_16, li_19, li_20, li_24, li_30, li_31, li_32, li_39, li_40, li_48, li_57, li_59, li_60, li_63, li_65, li_80, li_81, li_90, li_97, li_99, li_100, li_122, li_126, li_127, li_150, li_160, li_200, li_225, li_255, li_400, li_799, li_800, li_999, li_2400, li_3239, li_3240, li_1048575, li_1431655765, li_858993459, li_252645135, eqb_j, ltb_j, leb_j, inb_j, ix_j, ix_n, nz_b, nz_0, nz_1, eqb_b, bnot, vI_ne, vI_eq, gIL, gLI, gIR, gRI, gLR, gRL, Int.reduceLT, Int.reduceLE, Int.reduceEq, Int.reduceAdd, Int.reduceSub, Int.reduceMul, Int.reduceNeg, Int.reduceToNat, Nat.reduceEqDiff, reduceIte, if_neg, if_pos, gI_ne, gIv 128, gIv 127, a0, a1, a2, a3, b0, b1, b2, b3]
            rfl
          · rw [fin true (by constructor <;> intro h <;> first | omega | rfl)]
            simp (disch := omega) only [fX13_isMore_2, fX13_isMore_42, qbI_s, qbL_s, qbV_s, qbR_s, qbR_n, qbN_s, qbN_n, qbIX_s, qbIX_n, qbVX_s, qbVX_n, cond_true, cond_false, cond_dec, jadd, jsub, jmul, jneg, li_0, li_1, li_2, li_3, li_4, li_5, li_6, li_7, li_8, li_9, li_10, li_14, li_15, li_16, li_19, li_20, li_24, li_30, li_31, li_32, li_39, li_40, li_48, li_57, li_59, li_60, li_63, li_65, li_80, li_81, li_90, li_97, li_99, li_100, li_122, li_126, li_127, li_150, li_160, li_200, li_225, li_255, li_400, li_799, li_800, li_999, li_2400, li_3239, li_3240, li_1048575, li_1431655765, li_858993459, li_252645135, eqb_j, ltb_j, leb_j, inb_j, ix_j, ix_n, nz_b, nz_0, nz_1, eqb_b, bnot, vI_ne, vI_eq, gIL, gLI, gIR, gRI, gLR, gRL, Int.reduceLT, Int.reduceLE, Int.reduceEq, Int.reduceAdd, Int.reduceSub, Int.reduceMul, Int.reduceNeg, Int.reduceToNat, Nat.reduceEqDiff, reduceIte, if_neg, if_pos, gI_ne, gIv 128, gIv 127, a0, a1, a2, a3, b0, b1, b2, b3]
            rfl
      · by_cases c4 : (vW e : Int) ≤ vW d
        · rw [fin false (by constructor <;> intro h <;> first | cases h | omega)]
          simp (disch := omega) only [fX13_isMore_2, fX13_isMore_42, qbI_s, qbL_s, qbV_s, qbR_s, qbR_n, qbN_s, qbN_n, qbIX_s, qbIX_n, qbVX_s, qbVX_n, cond_true, cond_false, cond_dec, jadd, jsub, jmul, jneg, li_0, li_1, li_2, li_3, li_4, li_5, li_6, li_7, li_8, li_9, li_10, li_14, li_15, li_16, li_19, li_20, li_24, li_30, li_31, li_32, li_39, li_40, li_48, li_57, li_59, li_60, li_63, li_65, li_80, li_81, li_90, li_97, li_99, li_100, li_122, li_126, li_127, li_150, li_160, li_200, li_225, li_255, li_400, li_799, li_800, li_999, li_2400, li_3239, li_3240, li_1048575, li_1431655765, li_858993459, li_252645135, eqb_j, ltb_j, leb_j, inb_j, ix_j, ix_n, nz_b, nz_0, nz_1, eqb_b, bnot, vI_ne, vI_eq, gIL, gLI, gIR, gRI, gLR, gRL, Int.reduceLT, Int.reduceLE, Int.reduceEq, Int.reduceAdd, Int.reduceSub, Int.reduceMul, Int.reduceNeg, Int.reduceToNat, Nat.reduceEqDiff, reduceIte, if_neg, if_pos, gI_ne, gIv 128, gIv 127, a0, a1, a2, a3, b0, b1, b2, b3]
          rfl
        · rw [fin true (by constructor <;> intro h <;> first | omega | rfl)]
          simp (disch := omega) only [fX13_isMore_2, fX13_isMore_42, qbI_s, qbL_s, qbV_s, qbR_s, qbR_n, qbN_s, qbN_n, qbIX_s, qbIX_n, qbVX_s, qbVX_n, cond_true, cond_false, cond_dec, jadd, jsub, jmul, jneg, li_0, li_1, li_2, li_3, li_4, li_5, li_6, li_7, li_8, li_9, li_10, li_14, li_15, li_16, li_19, li_20, li_24, li_30, li_31, li_32, li_39, li_40, li_48, li_57, li_59, li_60, li_63, li_65, li_80, li_81, li_90, li_97, li_99, li_100, li_122, li_126, li_127, li_150, li_160, li_200, li_225, li_255, li_400, li_799, li_800, li_999, li_2400, li_3239, li_3240, li_1048575, li_1431655765, li_858993459, li_252645135, eqb_j, ltb_j, leb_j, inb_j, ix_j, ix_n, nz_b, nz_0, nz_1, eqb_b, bnot, vI_ne, vI_eq, gIL, gLI, gIR, gRI, gLR, gRL, Int.reduceLT, Int.reduceLE, Int.reduceEq, Int.reduceAdd, Int.reduceSub, Int.reduceMul, Int.reduceNeg, Int.reduceToNat, Nat.reduceEqDiff, reduceIte, if_neg, if_pos, gI_ne, gIv 128, gIv 127, a0, a1, a2, a3, b0, b1, b2, b3]
          rfl
    · by_cases c4 : (vA d : Int) ≤ vA e
      · rw [fin false (by constructor <;> intro h <;> first | cases h | omega)]
        simp (disch := omega) only [fX13_isMore_2, fX13_isMore_42, qbI_s, qbL_s, qbV_s, qbR_s, qbR_n, qbN_s, qbN_n, qbIX_s, qbIX_n, qbVX_s, qbVX_n, cond_true, cond_false, cond_dec, jadd, jsub, jmul, jneg, li_0, li_1, li_2, li_3, li_4, li_5, li_6, li_7, li_8, li_9, li_10, li_14, li_15, li_16, li_19, li_20, li_24, li_30, li_31, li_32, li_39, li_40, li_48, li_57, li_59, li_60, li_63, li_65, li_80, li_81, li_90, li_97, li_99, li_100, li_122, li_126, li_127, li_150, li_160, li_200, li_225, li_255, li_400, li_799, li_800, li_999, li_2400, li_3239, li_3240, li_1048575, li_1431655765, li_858993459, li_252645135, eqb_j, ltb_j, leb_j, inb_j, ix_j, ix_n, nz_b, nz_0, nz_1, eqb_b, bnot, vI_ne, vI_eq, gIL, gLI, gIR, gRI, gLR, gRL, Int.reduceLT, Int.reduceLE, Int.reduceEq, Int.reduceAdd, Int.reduceSub, Int.reduceMul, Int.reduceNeg, Int.reduceToNat, Nat.reduceEqDiff, reduceIte, if_neg, if_pos, gI_ne, gIv 128, gIv 127, a0, a1, a2, a3, b0, b1, b2, b3]
        rfl
      · rw [fin true (by constructor <;> intro h <;> first | omega | rfl)]
        simp (disch := omega) only [fX13_isMore_2, fX13_isMore_42, qbI_s, qbL_s, qbV_s, qbR_s, qbR_n, qbN_s, qbN_n, qbIX_s, qbIX_n, qbVX_s, qbVX_n, cond_true, cond_false, cond_dec, jadd, jsub, jmul, jneg, li_0, li_1, li_2, li_3, li_4, li_5, li_6, li_7, li_8, li_9, li_10, li_14, li_15, li_16, li_19, li_20, li_24, li_30, li_31, li_32, li_39, li_40, li_48, li_57, li_59, li_60, li_63, li_65, li_80, li_81, li_90, li_97, li_99, li_100, li_122, li_126, li_127, li_150, li_160, li_200, li_225, li_255, li_400, li_799, li_800, li_999, li_2400, li_3239, li_3240, li_1048575, li_1431655765, li_858993459, li_252645135, eqb_j, ltb_j, leb_j, inb_j, ix_j, ix_n, nz_b, nz_0, nz_1, eqb_b, bnot, vI_ne, vI_eq, gIL, gLI, gIR, gRI, gLR, gRL, Int.reduceLT, Int.reduceLE, Int.reduceEq, Int.reduceAdd, Int.reduceSub, Int.reduceMul, Int.reduceNeg, Int.reduceToNat, Nat.reduceEqDiff, reduceIte, if_neg, if_pos, gI_ne, gIv 128, gIv 127, a0, a1, a2, a3, b0, b1, b2, b3]
        rfl
  · by_cases c4 : (vM d : Int) ≤ vM e
    · rw [fin false (by constructor <;> intro h <;> first | cases h | omega)]
      simp (disch := omega) only [fX13_isMore_2, fX13_isMore_42, qbI_s, qbL_s, qbV_s, qbR_s, qbR_n, qbN_s, qbN_n, qbIX_s, qbIX_n, qbVX_s, qbVX_n, cond_true, cond_false, cond_dec, jadd, jsub, jmul, jneg, li_0, li_1, li_2, li_3, li_4, li_5, li_6, li_7, li_8, li_9, li_10, li_14, li_15, li_16, li_19, li_20, li_24, li_30, li_31, li_32, li_39, li_40, li_48, li_57, li_59, li_60, li_63, li_65, li_80, li_81, li_90, li_97, li_99, li_100, li_122, li_126, li_127, li_150, li_160, li_200, li_225, li_255, li_400, li_799, li_800, li_999, li_2400, li_3239, li_3240, li_1048575, li_1431655765, li_858993459, li_252645135, eqb_j, ltb_j, leb_j, inb_j, ix_j, ix_n, nz_b, nz_0, nz_1, eqb_b, bnot, vI_ne, vI_eq, gIL, gLI, gIR, gRI, gLR, gRL, Int.reduceLT, Int.reduceLE, Int.reduceEq, Int.reduceAdd, Int.reduceSub, Int.reduceMul, Int.reduceNeg, Int.reduceToNat, Nat.reduceEqDiff, reduceIte, if_neg, if_pos, gI_ne, gIv 128, gIv 127, a0, a1, a2, a3, b0, b1, b2, b3]
      rfl
    · rw [fin true (by constructor <;> intro h <;> first | omega | rfl)]
      simp (disch := omega) only [fX13_isMore_2, fX13_isMore_42, qbI_s, qbL_s, qbV_s, qbR_s, qbR_n, qbN_s, qbN_n, qbIX_s, qbIX_n, qbVX_s, qbVX_n, cond_true, cond_false, cond_dec, jadd, jsub, jmul, jneg, li_0, li_1, li_2, li_3, li_4, li_5, li_6, li_7, li_8, li_9, li_10, li_14, li_15, li_16, li_19, li_20, li_24, li_30, li_31, li_32, li_39, li_40, li_48, li_57, li_59, li_60, li_63, li_65, li_80, li_81, li_90, li_97, li_99, li_100, li_122, li_126, li_127, li_150, li_160, li_200, li_225, li_255, li_400, li_799, li_800, li_999, li_2400, li_3239, li_3240, li_1048575, li_1431655765, li_858993459, li_252645135, eqb_j, ltb_j, leb_j, inb_j, ix_j, ix_n, nz_b, nz_0, nz_1, eqb_b, bnot, vI_ne, vI_eq, gIL, gLI, gIR, gRI, gLR, gRL, Int.reduceLT, Int.reduceLE, Int.reduceEq, Int.reduceAdd, Int.reduceSub, Int.reduceMul, Int.reduceNeg, Int.reduceToNat, Nat.reduceEqDiff, reduceIte, if_neg, if_pos, gI_ne, gIv 128, gIv 127, a0, a1, a2, a3, b0, b1, b2, b3]
      rfl
