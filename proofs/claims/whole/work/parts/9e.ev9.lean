/-! the evening: what it begins with -/
noncomputable def bsE (d : Nat → Nat → Int) : Nat → Nat → Int := fun c k => if c = 139 then ftV d (d 124 k).toNat else if c = 140 then d 99 0 * d 116 k else if c = 141 ∨ c = 146 then -1 else 0
noncomputable def inE (d : Nat → Nat → Int) : Nat → Nat → Nat → Int
  | 0 => bsE d
  | k + 1 => if d 135 k = 0 then upE (inE d k) 139 (d 136 k).toNat (d 137 k) else if d 135 k = 1 then upE (inE d k) 148 (d 136 k).toNat (d 137 k) else if d 135 k = 2 then upE (inE d k) 140 (d 136 k).toNat (d 137 k) else inE d k
theorem inE_o (d : Nat → Nat → Int) {c : Nat} (h : ¬ (c = 139 ∨ c = 140 ∨ c = 148)) : ∀ K k, inE d K c k = bsE d c k
  | 0, k => rfl
  | K + 1, k => by
    unfold inE
    split
    · rw [upE_c _ _ (by omega), inE_o d h K k]
    · split
      · rw [upE_c _ _ (by omega), inE_o d h K k]
      · split
        · rw [upE_c _ _ (by omega), inE_o d h K k]
        · exact inE_o d h K k
theorem inE_139 (d : Nat → Nat → Int) (K a : Nat) : inE d (K + 1) 139 a = if d 135 K = 0 ∧ a = (d 136 K).toNat then d 137 K else inE d K 139 a := by
  rw [inE]
  by_cases g0 : d 135 K = 0
  · rw [if_pos g0, upE_eq]
    by_cases e : a = (d 136 K).toNat
    · rw [if_pos e, if_pos ⟨g0, e⟩]
    · rw [if_neg e, if_neg (fun z => e z.2)]
  · rw [if_neg g0]
    by_cases g1 : d 135 K = 1
    · rw [if_pos g1, upE_c _ _ (by omega), if_neg (fun z => by omega)]
    · rw [if_neg g1]
      by_cases g2 : d 135 K = 2
      · rw [if_pos g2, upE_c _ _ (by omega), if_neg (fun z => by omega)]
      · rw [if_neg g2, if_neg (fun z => by omega)]
theorem inE_148 (d : Nat → Nat → Int) (K a : Nat) : inE d (K + 1) 148 a = if d 135 K = 1 ∧ a = (d 136 K).toNat then d 137 K else inE d K 148 a := by
  rw [inE]
  by_cases g0 : d 135 K = 0
  · rw [if_pos g0, upE_c _ _ (by omega), if_neg (fun z => by omega)]
  · rw [if_neg g0]
    by_cases g1 : d 135 K = 1
    · rw [if_pos g1, upE_eq]
      by_cases e : a = (d 136 K).toNat
      · rw [if_pos e, if_pos ⟨g1, e⟩]
      · rw [if_neg e, if_neg (fun z => e z.2)]
    · rw [if_neg g1]
      by_cases g2 : d 135 K = 2
      · rw [if_pos g2, upE_c _ _ (by omega), if_neg (fun z => by omega)]
      · rw [if_neg g2, if_neg (fun z => by omega)]
theorem inE_140 (d : Nat → Nat → Int) (K a : Nat) : inE d (K + 1) 140 a = if d 135 K = 2 ∧ a = (d 136 K).toNat then d 137 K else inE d K 140 a := by
  rw [inE]
  by_cases g0 : d 135 K = 0
  · rw [if_pos g0, upE_c _ _ (by omega), if_neg (fun z => by omega)]
  · rw [if_neg g0]
    by_cases g1 : d 135 K = 1
    · rw [if_pos g1, upE_c _ _ (by omega), if_neg (fun z => by omega)]
    · rw [if_neg g1]
      by_cases g2 : d 135 K = 2
      · rw [if_pos g2, upE_eq]
        by_cases e : a = (d 136 K).toNat
        · rw [if_pos e, if_pos ⟨g2, e⟩]
        · rw [if_neg e, if_neg (fun z => e z.2)]
      · rw [if_neg g2, if_neg (fun z => by omega)]
theorem ft_r9 {m0 : qM} (hHa : RHab m0) (t : Nat) (ht : t < 10) : 0 ≤ ftV (vI m0) t ∧ ftV (vI m0) t ≤ 60 := by
  unfold ftV
  split
  · omega
  · exact (hHa.2 _).2
theorem inE_r {m0 : qM} (hR : R0 m0) : ∀ K : Nat, TLd (vI m0) K → (∀ a : Nat, (a : Int) < vI m0 98 32 → (0 ≤ inE (vI m0) K 139 a ∧ inE (vI m0) K 139 a ≤ 60) ∧ (inE (vI m0) K 148 a = 0 ∨ inE (vI m0) K 148 a = 1)) ∧ ∀ f, f < 15 → 0 ≤ inE (vI m0) K 140 f ∧ inE (vI m0) K 140 f ≤ 799 := by
  have hD := DOk.of (CAll.of hR)
  intro K
  induction K with
  | zero =>
    intro _
    refine ⟨fun a ha => ⟨?_, Or.inl rfl⟩, fun f hf => ?_⟩
    · have k2 := (hD.2.2.2.2.2.2 a ha).2.1
      exact ft_r9 hR.1.2.2.2.2 _ (by omega)
    · have h1 := hD.1.1
      have h2 := (hD.2.2.1 f hf).1
      have h3 : vI m0 99 0 * vI m0 116 f ≤ 30 * 19 := Int.mul_le_mul h1.2 (by omega) h2.1 (by omega)
      have h4 : 0 ≤ vI m0 99 0 * vI m0 116 f := Int.mul_nonneg (by omega) h2.1
      show 0 ≤ vI m0 99 0 * vI m0 116 f ∧ vI m0 99 0 * vI m0 116 f ≤ 799
      omega
  | succ K ih =>
    intro hT
    obtain ⟨i1, i2⟩ := ih (fun k hk => hT k (by omega))
    have h9 := hT K (by omega)
    refine ⟨fun a ha => ?_, fun f hf => ?_⟩
    · have := i1 a ha
      rw [inE_139, inE_148]
      refine ⟨?_, ?_⟩
      · split
        · omega
        · exact this.1
      · split
        · omega
        · exact this.2
    · have := i2 f hf
      rw [inE_140]
      split
      · omega
      · exact this
theorem SI.ini {m0 : qM} (hR : R0 m0) (K : Nat) (hT : TLd (vI m0) K) : SI (vI m0) (inE (vI m0) K) := by
  obtain ⟨i1, i2⟩ := inE_r hR K hT
  have z : ∀ c k, ¬ (c = 139 ∨ c = 140 ∨ c = 148) → ¬ (c = 141 ∨ c = 146) → inE (vI m0) K c k = 0 := fun c k h1 h2 => by
    rw [inE_o _ h1]
    unfold bsE
    rw [if_neg (by omega), if_neg (by omega), if_neg h2]
  have y : ∀ c k, (c = 141 ∨ c = 146) → inE (vI m0) K c k = -1 := fun c k h => by
    rw [inE_o _ (by omega)]
    unfold bsE
    rw [if_neg (by omega), if_neg (by omega), if_pos h]
  refine ⟨fun f hf => ⟨i2 f hf, ?_, ?_⟩, fun k hk => ?_, z 147 0 (by omega) (by omega), fun t ht => ?_, fun a ha => ⟨(i1 a ha).1, ?_, ?_, (i1 a ha).2, Or.inl (z 149 a (by omega) (by omega)), fun _ => z 149 a (by omega) (by omega), fun _ => ⟨y 141 a (by omega), z 149 a (by omega) (by omega)⟩, fun _ => z 142 a (by omega) (by omega)⟩⟩
  · rw [z 145 f (by omega) (by omega)]; omega
  · rw [y 146 f (by omega)]; omega
  · rw [z 147 k (by omega) (by omega)]; omega
  · rw [z 143 t (by omega) (by omega), z 144 t (by omega) (by omega)]; omega
  · rw [y 141 a (by omega)]; omega
  · rw [z 142 a (by omega) (by omega)]; omega
/-! the class's preparation -/
theorem prep1 {m0 : qM} (K : Nat) (hK : K ≤ 80) (k43 : Int32 → qM → Option (Unit × qM)) (Q : Unit → qM → Prop) : ∀ (r a g : Nat) (w : qM), a + r = 40 → r < g → (vI w 80 9 = K ∧ vI w 80 8 = 40 * K) → Fr (fun c _ => c = 80 ∨ c = 81 ∨ c = 82 ∨ c = 90 ∨ c = 91) m0 w → (∀ j, j < a → vI w 81 (40 * K + j) = -1 ∧ vI w 82 (40 * K + j) = -1 ∧ vI w 90 j = -1 ∧ vI w 91 j = 0) → (∀ j, ¬ (40 * K ≤ j ∧ j < 40 * K + 40) → gI w 81 j = gI m0 81 j ∧ gI w 82 j = gI m0 82 j) → (∀ w', (vI w' 80 9 = K ∧ vI w' 80 8 = 40 * K) → Fr (fun c _ => c = 80 ∨ c = 81 ∨ c = 82 ∨ c = 90 ∨ c = 91) m0 w' → (∀ j, j < 40 → vI w' 81 (40 * K + j) = -1 ∧ vI w' 82 (40 * K + j) = -1 ∧ vI w' 90 j = -1 ∧ vI w' 91 j = 0) → (∀ j, ¬ (40 * K ≤ j ∧ j < 40 * K + 40) → gI w' 81 j = gI m0 81 j ∧ gI w' 82 j = gI m0 82 j) → wp (k43 (Zi 0) w') Q) → wp (fX1_prepare_10 k43 g (Zi a) w) Q := by
  intro r
  induction r with
  | zero =>
    intro a g w ha hg h0 hF h1 h2 hk
    obtain ⟨g, rfl⟩ : ∃ g', g = g' + 1 := ⟨g - 1, by omega⟩
    have n := hk w h0 hF (fun j hj => h1 j (by omega)) h2
    simp (disch := omega) only [fX1_prepare_10, qbI_s, qbL_s, qbV_s, qbR_s, qbR_n, qbN_s, qbN_n, qbIX_s, qbIX_n, qbVX_s, qbVX_n, cond_true, cond_false, cond_dec, jadd, jsub, jmul, jneg, li_0, li_1, li_2, li_3, li_4, li_5, li_6, li_7, li_8, li_9, li_10, li_14, li_15, li_16, li_19, li_20, li_24, li_30, li_31, li_32, li_39, li_40, li_48, li_57, li_59, li_60, li_63, li_65, li_80, li_81, li_90, li_97, li_99, li_100, li_122, li_126, li_127, li_150, li_160, li_200, li_225, li_255, li_400, li_799, li_800, li_999, li_2400, li_3239, li_3240, li_1048575, li_1431655765, li_858993459, li_252645135, eqb_j, ltb_j, leb_j, inb_j, ix_j, ix_n, nz_b, nz_0, nz_1, eqb_b, bnot, vI_ne, vI_eq, gIL, gLI, gIR, gRI, gLR, gRL, Int.reduceLT, Int.reduceLE, Int.reduceEq, Int.reduceAdd, Int.reduceSub, Int.reduceMul, Int.reduceNeg, Int.reduceToNat, Nat.reduceEqDiff, reduceIte, if_neg, if_pos, gI_ne]
    exact n
  | succ r ih =>
    intro a g w ha hg h0 hF h1 h2 hk
    obtain ⟨g, rfl⟩ : ∃ g', g = g' + 1 := ⟨g - 1, by omega⟩
    have i1 : (40 * (K : Int) + a).toNat = 40 * K + a := by omega
    obtain ⟨w', hw'⟩ : ∃ w' : qM, w' = sI (sI (sI (sI w 81 (40 * K + a) (Zi (-1))) 82 (40 * K + a) (Zi (-1))) 90 a (Zi (-1))) 91 a (Zi 0) := ⟨_, rfl⟩
    have e81 : ∀ j, vI w' 81 j = if j = 40 * K + a then -1 else vI w 81 j := fun j => by rw [hw', vI_ne (by omega), vI_ne (by omega), vI_ne (by omega), vI_eq (by omega)]
    have e82 : ∀ j, vI w' 82 j = if j = 40 * K + a then -1 else vI w 82 j := fun j => by rw [hw', vI_ne (by omega), vI_ne (by omega), vI_eq (by omega), vI_ne (by omega)]
    have e90 : ∀ j, vI w' 90 j = if j = a then -1 else vI w 90 j := fun j => by rw [hw', vI_ne (by omega), vI_eq (by omega), vI_ne (by omega), vI_ne (by omega)]
    have e91 : ∀ j, vI w' 91 j = if j = a then 0 else vI w 91 j := fun j => by rw [hw', vI_eq (by omega), vI_ne (by omega), vI_ne (by omega), vI_ne (by omega)]
    have n := ih (a + 1) g w' (by omega) (by omega) (by rw [hw', vI_ne (by omega), vI_ne (by omega), vI_ne (by omega), vI_ne (by omega), vI_ne (by omega), vI_ne (by omega), vI_ne (by omega), vI_ne (by omega)]; exact h0) (by
      rw [hw']
      exact (((hF.wI 81 _ _ (by omega)).wI 82 _ _ (by omega)).wI 90 _ _ (by omega)).wI 91 _ _ (by omega)) (fun j hj => by
      rw [e81, e82, e90, e91]
      by_cases e : j = a
      · rw [if_pos (by omega), if_pos (by omega), if_pos e, if_pos e]; exact ⟨rfl, rfl, rfl, rfl⟩
      · rw [if_neg (by omega), if_neg (by omega), if_neg e, if_neg e]; exact h1 j (by omega)) (fun j hj => by
      rw [← (h2 j hj).1, ← (h2 j hj).2]
      exact ⟨gI_of (by rw [e81, if_neg (by omega)]), gI_of (by rw [e82, if_neg (by omega)])⟩) hk
    rw [hw'] at n
    simp (disch := omega) only [fX1_prepare_10, qbI_s, qbL_s, qbV_s, qbR_s, qbR_n, qbN_s, qbN_n, qbIX_s, qbIX_n, qbVX_s, qbVX_n, cond_true, cond_false, cond_dec, jadd, jsub, jmul, jneg, li_0, li_1, li_2, li_3, li_4, li_5, li_6, li_7, li_8, li_9, li_10, li_14, li_15, li_16, li_19, li_20, li_24, li_30, li_31, li_32, li_39, li_40, li_48, li_57, li_59, li_60, li_63, li_65, li_80, li_81, li_90, li_97, li_99, li_100, li_122, li_126, li_127, li_150, li_160, li_200, li_225, li_255, li_400, li_799, li_800, li_999, li_2400, li_3239, li_3240, li_1048575, li_1431655765, li_858993459, li_252645135, eqb_j, ltb_j, leb_j, inb_j, ix_j, ix_n, nz_b, nz_0, nz_1, eqb_b, bnot, vI_ne, vI_eq, gIL, gLI, gIR, gRI, gLR, gRL, Int.reduceLT, Int.reduceLE, Int.reduceEq, Int.reduceAdd, Int.reduceSub, Int.reduceMul, Int.reduceNeg, Int.reduceToNat, Nat.reduceEqDiff, reduceIte, if_neg, if_pos, gI_ne, gIv 80, h0.1, h0.2, i1, show (-1 : Int32) = Zi (-1) from rfl]
    exact n
theorem prep2 {m0 w0 : qM} (hA : CAll w0 (vI m0)) (k63 : Int32 → qM → Option (Unit × qM)) (Q : Unit → qM → Prop) : ∀ (r a g : Nat) (w : qM), a + r = 10 → r < g → Fr (fun c _ => c = 85 ∨ c = 86) w0 w → (∀ j, j < a → gI w 85 j = gI w0 66 j ∧ vI w 86 j = 0) → (∀ w', Fr (fun c _ => c = 85 ∨ c = 86) w0 w' → (∀ j, j < 10 → gI w' 85 j = gI w0 66 j ∧ vI w' 86 j = 0) → wp (k63 (Zi 0) w') Q) → wp (fX1_prepare_43 k63 g (Zi a) w) Q := by
  intro r
  induction r with
  | zero =>
    intro a g w ha hg hF h1 hk
    obtain ⟨g, rfl⟩ : ∃ g', g = g' + 1 := ⟨g - 1, by omega⟩
    have n := hk w hF (fun j hj => h1 j (by omega))
    simp (disch := omega) only [fX1_prepare_43, qbI_s, qbL_s, qbV_s, qbR_s, qbR_n, qbN_s, qbN_n, qbIX_s, qbIX_n, qbVX_s, qbVX_n, cond_true, cond_false, cond_dec, jadd, jsub, jmul, jneg, li_0, li_1, li_2, li_3, li_4, li_5, li_6, li_7, li_8, li_9, li_10, li_14, li_15, li_16, li_19, li_20, li_24, li_30, li_31, li_32, li_39, li_40, li_48, li_57, li_59, li_60, li_63, li_65, li_80, li_81, li_90, li_97, li_99, li_100, li_122, li_126, li_127, li_150, li_160, li_200, li_225, li_255, li_400, li_799, li_800, li_999, li_2400, li_3239, li_3240, li_1048575, li_1431655765, li_858993459, li_252645135, eqb_j, ltb_j, leb_j, inb_j, ix_j, ix_n, nz_b, nz_0, nz_1, eqb_b, bnot, vI_ne, vI_eq, gIL, gLI, gIR, gRI, gLR, gRL, Int.reduceLT, Int.reduceLE, Int.reduceEq, Int.reduceAdd, Int.reduceSub, Int.reduceMul, Int.reduceNeg, Int.reduceToNat, Nat.reduceEqDiff, reduceIte, if_neg, if_pos, gI_ne]
    exact n
  | succ r ih =>
    intro a g w ha hg hF h1 hk
    obtain ⟨g, rfl⟩ : ∃ g', g = g' + 1 := ⟨g - 1, by omega⟩
    have g66 : gI w 66 a = gI w0 66 a := hF.1 66 a (by omega)
    have n := ih (a + 1) g (sI (sI w 85 a (gI w0 66 a)) 86 a (Zi 0)) (by omega) (by omega) ((hF.wI 85 _ _ (by omega)).wI 86 _ _ (by omega)) (fun j hj => by
      rw [gI_ne (by omega), gI_eq, vI_eq (by omega), vI_ne (by omega)]
      by_cases e : j = a
      · rw [if_pos e, if_pos e, e]; exact ⟨rfl, rfl⟩
      · rw [if_neg e, if_neg e]; exact h1 j (by omega)) hk
    simp (disch := omega) only [fX1_prepare_43, fX4_laidOfTeacher_d, fX4_laidOfTeacher_0, qbI_s, qbL_s, qbV_s, qbR_s, qbR_n, qbN_s, qbN_n, qbIX_s, qbIX_n, qbVX_s, qbVX_n, cond_true, cond_false, cond_dec, jadd, jsub, jmul, jneg, li_0, li_1, li_2, li_3, li_4, li_5, li_6, li_7, li_8, li_9, li_10, li_14, li_15, li_16, li_19, li_20, li_24, li_30, li_31, li_32, li_39, li_40, li_48, li_57, li_59, li_60, li_63, li_65, li_80, li_81, li_90, li_97, li_99, li_100, li_122, li_126, li_127, li_150, li_160, li_200, li_225, li_255, li_400, li_799, li_800, li_999, li_2400, li_3239, li_3240, li_1048575, li_1431655765, li_858993459, li_252645135, eqb_j, ltb_j, leb_j, inb_j, ix_j, ix_n, nz_b, nz_0, nz_1, eqb_b, bnot, vI_ne, vI_eq, gIL, gLI, gIR, gRI, gLR, gRL, Int.reduceLT, Int.reduceLE, Int.reduceEq, Int.reduceAdd, Int.reduceSub, Int.reduceMul, Int.reduceNeg, Int.reduceToNat, Nat.reduceEqDiff, reduceIte, if_neg, if_pos, gI_ne, g66]
    exact n
theorem prep3 {m0 w0 : qM} (hA : CAll w0 (vI m0)) (k93 : Int32 → qM → Option (Unit × qM)) (Q : Unit → qM → Prop) : ∀ (r a g : Nat) (w : qM), a + r = 15 → r < g → Fr (fun c _ => c = 87 ∨ c = 88 ∨ c = 92) w0 w → (∀ j, j < a → vI w 87 j = 0 ∧ vI w 88 j = -1 ∧ vI w 92 j = vI m0 99 0 * vI m0 116 j) → (∀ w', Fr (fun c _ => c = 87 ∨ c = 88 ∨ c = 92) w0 w' → (∀ j, j < 15 → vI w' 87 j = 0 ∧ vI w' 88 j = -1 ∧ vI w' 92 j = vI m0 99 0 * vI m0 116 j) → wp (k93 (Zi 0) w') Q) → wp (fX1_prepare_63 k93 g (Zi a) w) Q := by
  have hD := DOk.of hA
  intro r
  induction r with
  | zero =>
    intro a g w ha hg hF h1 hk
    obtain ⟨g, rfl⟩ : ∃ g', g = g' + 1 := ⟨g - 1, by omega⟩
    have n := hk w hF (fun j hj => h1 j (by omega))
    simp (disch := omega) only [fX1_prepare_63, qbI_s, qbL_s, qbV_s, qbR_s, qbR_n, qbN_s, qbN_n, qbIX_s, qbIX_n, qbVX_s, qbVX_n, cond_true, cond_false, cond_dec, jadd, jsub, jmul, jneg, li_0, li_1, li_2, li_3, li_4, li_5, li_6, li_7, li_8, li_9, li_10, li_14, li_15, li_16, li_19, li_20, li_24, li_30, li_31, li_32, li_39, li_40, li_48, li_57, li_59, li_60, li_63, li_65, li_80, li_81, li_90, li_97, li_99, li_100, li_122, li_126, li_127, li_150, li_160, li_200, li_225, li_255, li_400, li_799, li_800, li_999, li_2400, li_3239, li_3240, li_1048575, li_1431655765, li_858993459, li_252645135, eqb_j, ltb_j, leb_j, inb_j, ix_j, ix_n, nz_b, nz_0, nz_1, eqb_b, bnot, vI_ne, vI_eq, gIL, gLI, gIR, gRI, gLR, gRL, Int.reduceLT, Int.reduceLE, Int.reduceEq, Int.reduceAdd, Int.reduceSub, Int.reduceMul, Int.reduceNeg, Int.reduceToNat, Nat.reduceEqDiff, reduceIte, if_neg, if_pos, gI_ne]
    exact n
  | succ r ih =>
    intro a g w ha hg hF h1 hk
    obtain ⟨g, rfl⟩ : ∃ g', g = g' + 1 := ⟨g - 1, by omega⟩
    have pF := hA.2.2.1 a (by omega)
    have r0 := hD.1.1
    obtain ⟨b, hb⟩ : ∃ b : Nat, vI m0 116 a = b := ⟨(vI m0 116 a).toNat, by omega⟩
    have g51 : gI w 51 a = gI w0 51 a := hF.1 51 a (by omega)
    have ls : ∀ y : qM, fX11_leastOf (gI w0 51 a) y = some (Zi (b : Int), y) := fun y => least_s _ b (by omega) (by rw [pF.2.1 b (by omega)]; exact decide_eq_true (by omega)) (fun j hj => by rw [pF.2.1 j (by omega)]; exact decide_eq_false (by omega)) y
    obtain ⟨w2, hw2⟩ : ∃ w2 : qM, w2 = sI (sI w 87 a (Zi 0)) 88 a (Zi (-1)) := ⟨_, rfl⟩
    have F2 : Fr (fun c _ => c = 87 ∨ c = 88 ∨ c = 92) w0 w2 := by rw [hw2]; exact (hF.wI 87 _ _ (by omega)).wI 88 _ _ (by omega)
    have g51b : gI w2 51 a = gI w0 51 a := F2.1 51 a (by omega)
    have mA : fX7_slotMinutes w2 = some (Zi (vI m0 99 0), w2) := evMin (hA.congr (fun c k hc => F2.1 c k (by omega)) (fun c k _ => rfl))
    have h3 : (b : Int) * vI m0 99 0 ≤ 19 * 30 := Int.mul_le_mul (by omega) r0.2 (by omega) (by omega)
    have h4 : 0 ≤ (b : Int) * vI m0 99 0 := Int.mul_nonneg (by omega) (by omega)
    have h5 : vI m0 99 0 * vI m0 116 a = (b : Int) * vI m0 99 0 := by rw [hb, Int.mul_comm]
    have n := ih (a + 1) g (sI w2 92 a (Zi ((b : Int) * vI m0 99 0))) (by omega) (by omega) (F2.wI 92 _ _ (by omega)) (fun j hj => by
      rw [vI_ne (by omega), vI_ne (by omega), vI_eq (by omega), hw2, vI_ne (by omega), vI_eq (by omega), vI_eq (by omega), vI_ne (by omega), vI_ne (by omega), vI_ne (by omega)]
      by_cases e : j = a
      · rw [if_pos e, if_pos e, if_pos e, e, h5]; exact ⟨rfl, rfl, rfl⟩
      · rw [if_neg e, if_neg e, if_neg e]; exact h1 j (by omega)) hk
    simp (disch := omega) only [fX1_prepare_63, fX3_familySlots_d, fX3_familySlots_0, qbI_s, qbL_s, qbV_s, qbR_s, qbR_n, qbN_s, qbN_n, qbIX_s, qbIX_n, qbVX_s, qbVX_n, cond_true, cond_false, cond_dec, jadd, jsub, jmul, jneg, li_0, li_1, li_2, li_3, li_4, li_5, li_6, li_7, li_8, li_9, li_10, li_14, li_15, li_16, li_19, li_20, li_24, li_30, li_31, li_32, li_39, li_40, li_48, li_57, li_59, li_60, li_63, li_65, li_80, li_81, li_90, li_97, li_99, li_100, li_122, li_126, li_127, li_150, li_160, li_200, li_225, li_255, li_400, li_799, li_800, li_999, li_2400, li_3239, li_3240, li_1048575, li_1431655765, li_858993459, li_252645135, eqb_j, ltb_j, leb_j, inb_j, ix_j, ix_n, nz_b, nz_0, nz_1, eqb_b, bnot, vI_ne, vI_eq, gIL, gLI, gIR, gRI, gLR, gRL, Int.reduceLT, Int.reduceLE, Int.reduceEq, Int.reduceAdd, Int.reduceSub, Int.reduceMul, Int.reduceNeg, Int.reduceToNat, Nat.reduceEqDiff, reduceIte, if_neg, if_pos, gI_ne, g51b, ls, show (-1 : Int32) = Zi (-1) from rfl, ← hw2, mA]
    exact n
theorem prep4 {w0 : qM} (Q : Unit → qM → Prop) : ∀ (r a g : Nat) (w : qM), a + r = 4 → r < g → Fr (fun c _ => c = 89) w0 w → (∀ j, j < a → vI w 89 j = 0) → (∀ w', Fr (fun c _ => c = 89) w0 w' → (∀ j, j < 4 → vI w' 89 j = 0) → wp (qbV (fX9_fill_90 (Zi 0) (gI w' 80 9) w') (fun m20 => qbV (fX9_fill_91 (Zi 1) (gI m20 80 9) m20) (fun m21 => qbV (fX9_fill_92 (Zi 2) (gI m21 80 9) m21) (fun m22 => some ((), m22))))) Q) → wp (fX1_prepare_93 g (Zi a) w) Q := by
  intro r
  induction r with
  | zero =>
    intro a g w ha hg hF h1 hk
    obtain ⟨g, rfl⟩ : ∃ g', g = g' + 1 := ⟨g - 1, by omega⟩
    have n := hk w hF (fun j hj => h1 j (by omega))
    simp (disch := omega) only [fX1_prepare_93, cond_true, cond_dec, leb_j, li_0, li_1, li_2, li_4, if_pos]
    exact n
  | succ r ih =>
    intro a g w ha hg hF h1 hk
    obtain ⟨g, rfl⟩ : ∃ g', g = g' + 1 := ⟨g - 1, by omega⟩
    have n := ih (a + 1) g (sI w 89 a (Zi 0)) (by omega) (by omega) (Fr.wI (P := fun c _ => c = 89) hF 89 _ _ rfl) (fun j hj => by
      rw [vI_eq (by omega)]
      by_cases e : j = a
      · rw [if_pos e]
      · rw [if_neg e]; exact h1 j (by omega)) hk
    simp (disch := omega) only [fX1_prepare_93, qbI_s, qbL_s, qbV_s, qbR_s, qbR_n, qbN_s, qbN_n, qbIX_s, qbIX_n, qbVX_s, qbVX_n, cond_true, cond_false, cond_dec, jadd, jsub, jmul, jneg, li_0, li_1, li_2, li_3, li_4, li_5, li_6, li_7, li_8, li_9, li_10, li_14, li_15, li_16, li_19, li_20, li_24, li_30, li_31, li_32, li_39, li_40, li_48, li_57, li_59, li_60, li_63, li_65, li_80, li_81, li_90, li_97, li_99, li_100, li_122, li_126, li_127, li_150, li_160, li_200, li_225, li_255, li_400, li_799, li_800, li_999, li_2400, li_3239, li_3240, li_1048575, li_1431655765, li_858993459, li_252645135, eqb_j, ltb_j, leb_j, inb_j, ix_j, ix_n, nz_b, nz_0, nz_1, eqb_b, bnot, vI_ne, vI_eq, gIL, gLI, gIR, gRI, gLR, gRL, Int.reduceLT, Int.reduceLE, Int.reduceEq, Int.reduceAdd, Int.reduceSub, Int.reduceMul, Int.reduceNeg, Int.reduceToNat, Nat.reduceEqDiff, reduceIte, if_neg, if_pos, gI_ne]
    exact n
