/-! the rules: the operation -/
def dfR (k : Nat) : Int := ([10, 2, 1, 15, 0, 0] : List Int).getD k 0
theorem df_all : ∀ k, k < 6 → qx10000 k = Zi (dfR k) ∧ (loR k ≤ dfR k ∧ dfR k ≤ hiR k) := by decide +kernel
theorem RB_df : RB dfR := fun k hk => (df_all k hk).2
theorem wkC_cg {d e : Nat → Nat → Int} (h1 : e 5 1 = d 5 1) (h2 : e 5 2 = d 5 2) (t u : Nat) (h3 : e 48 t = d 48 t ∧ e 49 t = d 49 t ∧ e 48 u = d 48 u ∧ e 49 u = d 49 u) : wkC e t u = wkC d t u := by
  unfold wkC
  rw [h1, h2, h3.1, h3.2.1, h3.2.2.1, h3.2.2.2]
theorem draftC (m : qM) {post : Int32 → qM → Prop} (kk : Int32 → Int32 → qM → Option (Int32 × qM)) (hk : ∀ w : qM, Fr (fun c k => c = 3 ∧ 1 ≤ k ∧ k ≤ 5 ∨ c = 6) m w → (∀ j, j < 6 → vI w 6 j = dfR j) → vI w 3 3 = 0 → vI w 3 4 = 0 → vI w 3 5 = -1 → wp (kk (Zi 0) (Zi 0) w) post) : ∀ (r k g : Nat) (w : qM), k + r = 6 → r < g → Fr (fun c k => c = 3 ∧ 1 ≤ k ∧ k ≤ 5 ∨ c = 6) m w → (∀ j, j < k → vI w 6 j = dfR j) → wp (fX7_takeText_2 kk g (Zi k) w) post := by
  intro r
  induction r with
  | zero =>
    intro k g w hk6 hg hF h6
    obtain ⟨g, rfl⟩ : ∃ g', g = g' + 1 := ⟨g - 1, by omega⟩
    have nx := hk (sI (sI (sI (sI w 3 2 (Zi 0)) 3 3 (Zi 0)) 3 4 (Zi 0)) 3 5 (Zi (-1))) ((((hF.wI 3 2 _ (by omega)).wI 3 3 _ (by omega)).wI 3 4 _ (by omega)).wI 3 5 _ (by omega)) (fun j hj => by
      rw [vI_ne (by omega), vI_ne (by omega), vI_ne (by omega), vI_ne (by omega)]
      exact h6 j (by omega)) (by rw [vI_nk (by omega), vI_nk (by omega), vI_eq (by omega), if_pos rfl]) (by rw [vI_nk (by omega), vI_eq (by omega), if_pos rfl]) (by rw [vI_eq (by omega), if_pos rfl])
    simp (disch := omega) only [fX7_takeText_2, fX6_open_d, fX6_open_0, qbI_s, qbL_s, qbV_s, qbR_s, qbR_n, qbN_s, qbN_n, qbIX_s, qbIX_n, qbVX_s, qbVX_n, cond_true, cond_false, cond_dec, jadd, jsub, jmul, jneg, li_0, li_1, li_2, li_3, li_4, li_5, li_6, li_7, li_8, li_9, li_10, li_14, li_15, li_16, li_19, li_20, li_24, li_30, li_31, li_32, li_39, li_40, li_48, li_57, li_59, li_60, li_63, li_65, li_80, li_81, li_90, li_97, li_99, li_100, li_122, li_126, li_127, li_150, li_160, li_200, li_225, li_255, li_400, li_799, li_800, li_999, li_2400, li_3239, li_3240, li_1048575, li_1431655765, li_858993459, li_252645135, eqb_j, ltb_j, leb_j, inb_j, ix_j, ix_n, nz_b, nz_0, nz_1, eqb_b, bnot, vI_ne, vI_eq, gIL, gLI, gIR, gRI, gLR, gRL, Int.reduceLT, Int.reduceLE, Int.reduceEq, Int.reduceAdd, Int.reduceSub, Int.reduceMul, Int.reduceNeg, Int.reduceToNat, Nat.reduceEqDiff, reduceIte, if_neg, if_pos, gI_ne]
    exact nx
  | succ r ih =>
    intro k g w hk6 hg hF h6
    obtain ⟨g, rfl⟩ : ∃ g', g = g' + 1 := ⟨g - 1, by omega⟩
    obtain ⟨q1, q2⟩ := df_all k (by omega)
    have q3 := lohi k (by omega)
    have nx := ih (k + 1) g (sI w 6 k (Zi (dfR k))) (by omega) (by omega) (hF.wI 6 k _ (by omega)) (fun j hj => by
      rw [vI_eq (by omega)]
      by_cases e : j = k
      · rw [if_pos e, e]
      · rw [if_neg e]; exact h6 j (by omega))
    simp (disch := omega) only [fX7_takeText_2, qbI_s, qbL_s, qbV_s, qbR_s, qbR_n, qbN_s, qbN_n, qbIX_s, qbIX_n, qbVX_s, qbVX_n, cond_true, cond_false, cond_dec, jadd, jsub, jmul, jneg, li_0, li_1, li_2, li_3, li_4, li_5, li_6, li_7, li_8, li_9, li_10, li_14, li_15, li_16, li_19, li_20, li_24, li_30, li_31, li_32, li_39, li_40, li_48, li_57, li_59, li_60, li_63, li_65, li_80, li_81, li_90, li_97, li_99, li_100, li_122, li_126, li_127, li_150, li_160, li_200, li_225, li_255, li_400, li_799, li_800, li_999, li_2400, li_3239, li_3240, li_1048575, li_1431655765, li_858993459, li_252645135, eqb_j, ltb_j, leb_j, inb_j, ix_j, ix_n, nz_b, nz_0, nz_1, eqb_b, bnot, vI_ne, vI_eq, gIL, gLI, gIR, gRI, gLR, gRL, Int.reduceLT, Int.reduceLE, Int.reduceEq, Int.reduceAdd, Int.reduceSub, Int.reduceMul, Int.reduceNeg, Int.reduceToNat, Nat.reduceEqDiff, reduceIte, if_neg, if_pos, gI_ne, q1]
    exact nx
theorem freshM (m : qM) {post : Option Int32 → qM → Prop} (kk : Int32 → qM → Option (Option Int32 × qM)) (hk : ∀ w : qM, Fr (fun c _ => c = 111) m w → (∀ j, j < 6 → vI w 111 j = 0) → wp (kk (Zi 0) w) post) : ∀ (r k g : Nat) (w : qM), k + r = 6 → r < g → Fr (fun c _ => c = 111) m w → (∀ j, j < k → vI w 111 j = 0) → wp (fX13_readRules_32 kk g (Zi k) w) post := by
  intro r
  induction r with
  | zero =>
    intro k g w hk6 hg hF h6
    obtain ⟨g, rfl⟩ : ∃ g', g = g' + 1 := ⟨g - 1, by omega⟩
    have nx := hk w hF (fun j hj => h6 j (by omega))
    simp (disch := omega) only [fX13_readRules_32, qbI_s, qbL_s, qbV_s, qbR_s, qbR_n, qbN_s, qbN_n, qbIX_s, qbIX_n, qbVX_s, qbVX_n, cond_true, cond_false, cond_dec, jadd, jsub, jmul, jneg, li_0, li_1, li_2, li_3, li_4, li_5, li_6, li_7, li_8, li_9, li_10, li_14, li_15, li_16, li_19, li_20, li_24, li_30, li_31, li_32, li_39, li_40, li_48, li_57, li_59, li_60, li_63, li_65, li_80, li_81, li_90, li_97, li_99, li_100, li_122, li_126, li_127, li_150, li_160, li_200, li_225, li_255, li_400, li_799, li_800, li_999, li_2400, li_3239, li_3240, li_1048575, li_1431655765, li_858993459, li_252645135, eqb_j, ltb_j, leb_j, inb_j, ix_j, ix_n, nz_b, nz_0, nz_1, eqb_b, bnot, vI_ne, vI_eq, gIL, gLI, gIR, gRI, gLR, gRL, Int.reduceLT, Int.reduceLE, Int.reduceEq, Int.reduceAdd, Int.reduceSub, Int.reduceMul, Int.reduceNeg, Int.reduceToNat, Nat.reduceEqDiff, reduceIte, if_neg, if_pos, gI_ne]
    exact nx
  | succ r ih =>
    intro k g w hk6 hg hF h6
    obtain ⟨g, rfl⟩ : ∃ g', g = g' + 1 := ⟨g - 1, by omega⟩
    have nx := ih (k + 1) g (sI w 111 k (Zi 0)) (by omega) (by omega) (hF.wI 111 k _ rfl) (fun j hj => by
      rw [vI_eq (by omega)]
      by_cases e : j = k
      · rw [if_pos e]
      · rw [if_neg e]; exact h6 j (by omega))
    simp (disch := omega) only [fX13_readRules_32, qbI_s, qbL_s, qbV_s, qbR_s, qbR_n, qbN_s, qbN_n, qbIX_s, qbIX_n, qbVX_s, qbVX_n, cond_true, cond_false, cond_dec, jadd, jsub, jmul, jneg, li_0, li_1, li_2, li_3, li_4, li_5, li_6, li_7, li_8, li_9, li_10, li_14, li_15, li_16, li_19, li_20, li_24, li_30, li_31, li_32, li_39, li_40, li_48, li_57, li_59, li_60, li_63, li_65, li_80, li_81, li_90, li_97, li_99, li_100, li_122, li_126, li_127, li_150, li_160, li_200, li_225, li_255, li_400, li_799, li_800, li_999, li_2400, li_3239, li_3240, li_1048575, li_1431655765, li_858993459, li_252645135, eqb_j, ltb_j, leb_j, inb_j, ix_j, ix_n, nz_b, nz_0, nz_1, eqb_b, bnot, vI_ne, vI_eq, gIL, gLI, gIR, gRI, gLR, gRL, Int.reduceLT, Int.reduceLE, Int.reduceEq, Int.reduceAdd, Int.reduceSub, Int.reduceMul, Int.reduceNeg, Int.reduceToNat, Nat.reduceEqDiff, reduceIte, if_neg, if_pos, gI_ne]
    exact nx
theorem copyM (m : qM) (x : Int32) : ∀ (r k g : Nat) (w : qM), k + r = 6 → r < g → Fr (fun c k => c = 99 ∧ k < 6) m w → (∀ j, j < k → vI w 99 j = vI m 100 j) → wp (fX13_rules_24 g x (Zi k) w) (fun y w' => y = x ∧ Fr (fun c k => c = 99 ∧ k < 6) m w' ∧ ∀ j, j < 6 → vI w' 99 j = vI m 100 j) := by
  intro r
  induction r with
  | zero =>
    intro k g w hk6 hg hF h6
    obtain ⟨g, rfl⟩ : ∃ g', g = g' + 1 := ⟨g - 1, by omega⟩
    refine wp_e (x := x) (m := w) ?_ ⟨rfl, hF, fun j hj => h6 j (by omega)⟩
    simp (disch := omega) only [fX13_rules_24, qbI_s, qbL_s, qbV_s, qbR_s, qbR_n, qbN_s, qbN_n, qbIX_s, qbIX_n, qbVX_s, qbVX_n, cond_true, cond_false, cond_dec, jadd, jsub, jmul, jneg, li_0, li_1, li_2, li_3, li_4, li_5, li_6, li_7, li_8, li_9, li_10, li_14, li_15, li_16, li_19, li_20, li_24, li_30, li_31, li_32, li_39, li_40, li_48, li_57, li_59, li_60, li_63, li_65, li_80, li_81, li_90, li_97, li_99, li_100, li_122, li_126, li_127, li_150, li_160, li_200, li_225, li_255, li_400, li_799, li_800, li_999, li_2400, li_3239, li_3240, li_1048575, li_1431655765, li_858993459, li_252645135, eqb_j, ltb_j, leb_j, inb_j, ix_j, ix_n, nz_b, nz_0, nz_1, eqb_b, bnot, vI_ne, vI_eq, gIL, gLI, gIR, gRI, gLR, gRL, Int.reduceLT, Int.reduceLE, Int.reduceEq, Int.reduceAdd, Int.reduceSub, Int.reduceMul, Int.reduceNeg, Int.reduceToNat, Nat.reduceEqDiff, reduceIte, if_neg, if_pos, gI_ne]
  | succ r ih =>
    intro k g w hk6 hg hF h6
    obtain ⟨g, rfl⟩ : ∃ g', g = g' + 1 := ⟨g - 1, by omega⟩
    have r1 := vI_r m 100 k
    have v1 : vI w 100 k = vI m 100 k := hF.v 100 k (by omega)
    have nx := ih (k + 1) g (sI w 99 k (Zi (vI m 100 k))) (by omega) (by omega) (hF.wI 99 k _ (by omega)) (fun j hj => by
      rw [vI_eq (by omega)]
      by_cases e : j = k
      · rw [if_pos e, e]
      · rw [if_neg e]; exact h6 j (by omega))
    simp (disch := omega) only [fX13_rules_24, qbI_s, qbL_s, qbV_s, qbR_s, qbR_n, qbN_s, qbN_n, qbIX_s, qbIX_n, qbVX_s, qbVX_n, cond_true, cond_false, cond_dec, jadd, jsub, jmul, jneg, li_0, li_1, li_2, li_3, li_4, li_5, li_6, li_7, li_8, li_9, li_10, li_14, li_15, li_16, li_19, li_20, li_24, li_30, li_31, li_32, li_39, li_40, li_48, li_57, li_59, li_60, li_63, li_65, li_80, li_81, li_90, li_97, li_99, li_100, li_122, li_126, li_127, li_150, li_160, li_200, li_225, li_255, li_400, li_799, li_800, li_999, li_2400, li_3239, li_3240, li_1048575, li_1431655765, li_858993459, li_252645135, eqb_j, ltb_j, leb_j, inb_j, ix_j, ix_n, nz_b, nz_0, nz_1, eqb_b, bnot, vI_ne, vI_eq, gIL, gLI, gIR, gRI, gLR, gRL, Int.reduceLT, Int.reduceLE, Int.reduceEq, Int.reduceAdd, Int.reduceSub, Int.reduceMul, Int.reduceNeg, Int.reduceToNat, Nat.reduceEqDiff, reduceIte, if_neg, if_pos, gI_ne, gIv 100, v1]
    exact nx
