/-! the rules read: the loop over their rows, both machines -/
theorem ix_6 : ix (Zi 6) = 6 := by
  simp (disch := omega) only [qbI_s, qbL_s, qbV_s, qbR_s, qbR_n, qbN_s, qbN_n, qbIX_s, qbIX_n, qbVX_s, qbVX_n, cond_true, cond_false, cond_dec, jadd, jsub, jmul, jneg, li_0, li_1, li_2, li_3, li_4, li_5, li_6, li_7, li_8, li_9, li_10, li_14, li_15, li_16, li_19, li_20, li_24, li_30, li_31, li_32, li_39, li_40, li_48, li_57, li_59, li_60, li_63, li_65, li_80, li_81, li_90, li_97, li_99, li_100, li_122, li_126, li_127, li_150, li_160, li_200, li_225, li_255, li_400, li_799, li_800, li_999, li_2400, li_3239, li_3240, li_1048575, li_1431655765, li_858993459, li_252645135, eqb_j, ltb_j, leb_j, inb_j, ix_j, ix_n, nz_b, nz_0, nz_1, eqb_b, bnot, vI_ne, vI_eq, gIL, gLI, gIR, gRI, gLR, gRL, Int.reduceLT, Int.reduceLE, Int.reduceEq, Int.reduceAdd, Int.reduceSub, Int.reduceMul, Int.reduceNeg, Int.reduceToNat, Nat.reduceEqDiff, reduceIte, if_neg, if_pos, gI_ne]
def loR (k : Nat) : Int := ([1, 0, 0, 0, 0, 0] : List Int).getD k 0
def hiR (k : Nat) : Int := ([30, 20, 20, 99, 9, 9] : List Int).getD k 0
theorem lohi : ∀ k, k < 6 → qx10001 k = Zi (loR k) ∧ qx10002 k = Zi (hiR k) ∧ (0 ≤ loR k ∧ loR k ≤ 1) ∧ (9 ≤ hiR k ∧ hiR k ≤ 99) := by decide +kernel
theorem most_s (k : Nat) (hk : k < 6) (m : qM) : fX13_most (Zi k) m = some (Zi (hiR k), m) := by
  rw [fX13_most_d]
  obtain rfl | rfl | rfl | rfl | rfl | rfl : k = 0 ∨ k = 1 ∨ k = 2 ∨ k = 3 ∨ k = 4 ∨ k = 5 := by omega
  all_goals
    simp (disch := omega) only [fX13_most_0, fX13_most_10, fX13_most_18, qbI_s, qbL_s, qbV_s, qbR_s, qbR_n, qbN_s, qbN_n, qbIX_s, qbIX_n, qbVX_s, qbVX_n, cond_true, cond_false, cond_dec, jadd, jsub, jmul, jneg, li_0, li_1, li_2, li_3, li_4, li_5, li_6, li_7, li_8, li_9, li_10, li_14, li_15, li_16, li_19, li_20, li_24, li_30, li_31, li_32, li_39, li_40, li_48, li_57, li_59, li_60, li_63, li_65, li_80, li_81, li_90, li_97, li_99, li_100, li_122, li_126, li_127, li_150, li_160, li_200, li_225, li_255, li_400, li_799, li_800, li_999, li_2400, li_3239, li_3240, li_1048575, li_1431655765, li_858993459, li_252645135, eqb_j, ltb_j, leb_j, inb_j, ix_j, ix_n, nz_b, nz_0, nz_1, eqb_b, bnot, vI_ne, vI_eq, gIL, gLI, gIR, gRI, gLR, gRL, Int.reduceLT, Int.reduceLE, Int.reduceEq, Int.reduceAdd, Int.reduceSub, Int.reduceMul, Int.reduceNeg, Int.reduceToNat, Nat.reduceEqDiff, reduceIte, if_neg, if_pos, gI_ne]
    rfl
theorem end_s (w : qM) (K : Int) (h : vI w 3 1 = K) (hK : 0 ≤ K ∧ K ≤ 4) : fX6_isAtEnd w = some (Zi (bI (decide (K = 0))), w) := by
  rw [fX6_isAtEnd_d]
  by_cases g : K = 0
  · rw [decide_eq_true g]
    simp (disch := omega) only [fX6_isAtEnd_0, fX6_isAtEnd_6, qbI_s, qbL_s, qbV_s, qbR_s, qbR_n, qbN_s, qbN_n, qbIX_s, qbIX_n, qbVX_s, qbVX_n, cond_true, cond_false, cond_dec, jadd, jsub, jmul, jneg, li_0, li_1, li_2, li_3, li_4, li_5, li_6, li_7, li_8, li_9, li_10, li_14, li_15, li_16, li_19, li_20, li_24, li_30, li_31, li_32, li_39, li_40, li_48, li_57, li_59, li_60, li_63, li_65, li_80, li_81, li_90, li_97, li_99, li_100, li_122, li_126, li_127, li_150, li_160, li_200, li_225, li_255, li_400, li_799, li_800, li_999, li_2400, li_3239, li_3240, li_1048575, li_1431655765, li_858993459, li_252645135, eqb_j, ltb_j, leb_j, inb_j, ix_j, ix_n, nz_b, nz_0, nz_1, eqb_b, bnot, vI_ne, vI_eq, gIL, gLI, gIR, gRI, gLR, gRL, Int.reduceLT, Int.reduceLE, Int.reduceEq, Int.reduceAdd, Int.reduceSub, Int.reduceMul, Int.reduceNeg, Int.reduceToNat, Nat.reduceEqDiff, reduceIte, if_neg, if_pos, gI_ne, gIv 3, h]
    rfl
  · rw [decide_eq_false g]
    simp (disch := omega) only [fX6_isAtEnd_0, fX6_isAtEnd_6, qbI_s, qbL_s, qbV_s, qbR_s, qbR_n, qbN_s, qbN_n, qbIX_s, qbIX_n, qbVX_s, qbVX_n, cond_true, cond_false, cond_dec, jadd, jsub, jmul, jneg, li_0, li_1, li_2, li_3, li_4, li_5, li_6, li_7, li_8, li_9, li_10, li_14, li_15, li_16, li_19, li_20, li_24, li_30, li_31, li_32, li_39, li_40, li_48, li_57, li_59, li_60, li_63, li_65, li_80, li_81, li_90, li_97, li_99, li_100, li_122, li_126, li_127, li_150, li_160, li_200, li_225, li_255, li_400, li_799, li_800, li_999, li_2400, li_3239, li_3240, li_1048575, li_1431655765, li_858993459, li_252645135, eqb_j, ltb_j, leb_j, inb_j, ix_j, ix_n, nz_b, nz_0, nz_1, eqb_b, bnot, vI_ne, vI_eq, gIL, gLI, gIR, gRI, gLR, gRL, Int.reduceLT, Int.reduceLE, Int.reduceEq, Int.reduceAdd, Int.reduceSub, Int.reduceMul, Int.reduceNeg, Int.reduceToNat, Nat.reduceEqDiff, reduceIte, if_neg, if_pos, gI_ne, gIv 3, h]
    rfl
def RB (R : Nat → Int) : Prop := ∀ k, k < 6 → loR k ≤ R k ∧ R k ≤ hiR k
def clR (ok : Bool) (x fk fp : Int) (V : Nat → Int) (w : qM) (y : Int32) (w' : qM) : Prop := y = Zi x ∧ Fr (fun c k => c = 3 ∧ 1 ≤ k ∧ k ≤ 5 ∨ c = 5 ∧ k < 6 ∨ c = 6) w w' ∧ (ok = true → (∀ k, k < 6 → vI w' 5 k = V k) ∧ gI w' 3 4 = gI w 3 4 ∧ gI w' 3 5 = gI w 3 5) ∧ (ok = false → (∀ k, gI w' 5 k = gI w 5 k) ∧ vI w' 3 4 = fk ∧ vI w' 3 5 = fp)
def clM (ok : Bool) (x fk fp : Int) (V : Nat → Int) (v : qM) (y : Option Int32) (v' : qM) : Prop := y = (if ok = true then some (Zi x) else none) ∧ Fr (fun c k => c = 98 ∧ 14 ≤ k ∧ k ≤ 19 ∨ c = 100 ∨ c = 111) v v' ∧ (ok = true → (∀ k, k < 6 → vI v' 100 k = V k) ∧ gI v' 98 18 = gI v 98 18 ∧ gI v' 98 19 = gI v 98 19) ∧ (ok = false → vI v' 98 18 = fk ∧ vI v' 98 19 = fp)
def nC (d : Nat → Int) (n p : Nat) (lo hi : Int) (m : qM) (y : Int32) (v' : qM) : Prop := Fr (fun c k => c = 3 ∧ 1 ≤ k ∧ k ≤ 5) m v' ∧ ((tK d n (tF d n p) = 2 ∧ (lo ≤ nV d (tF d n p) (tU d n (tF d n p) - tF d n p) ∧ nV d (tF d n p) (tU d n (tF d n p) - tF d n p) ≤ hi) ∧ y = Zi (nV d (tF d n p) (tU d n (tF d n p) - tF d n p)) ∧ vI v' 3 3 = tU d n (tF d n p) ∧ gI v' 3 4 = gI m 3 4 ∧ gI v' 3 5 = gI m 3 5) ∨ (tK d n (tF d n p) = 2 ∧ ¬ (lo ≤ nV d (tF d n p) (tU d n (tF d n p) - tF d n p) ∧ nV d (tF d n p) (tU d n (tF d n p) - tF d n p) ≤ hi) ∧ y = Zi (-1) ∧ vI v' 3 4 = 2 ∧ vI v' 3 5 = tF d n p) ∨ (¬ tK d n (tF d n p) = 2 ∧ y = Zi (-1) ∧ vI v' 3 4 = 1 ∧ vI v' 3 5 = tF d n p))
def nM (d : Nat → Int) (n p : Nat) (lo hi : Int) (v : qM) (y : Option Int32) (v' : qM) : Prop := Fr (fun c k => c = 98 ∧ 14 ≤ k ∧ k ≤ 19) v v' ∧ ((tK d n (tF d n p) = 2 ∧ (lo ≤ nV d (tF d n p) (tU d n (tF d n p) - tF d n p) ∧ nV d (tF d n p) (tU d n (tF d n p) - tF d n p) ≤ hi) ∧ y = some (Zi (nV d (tF d n p) (tU d n (tF d n p) - tF d n p))) ∧ MT v' d n (tU d n (tF d n p)) ∧ gI v' 98 18 = gI v 98 18 ∧ gI v' 98 19 = gI v 98 19) ∨ (tK d n (tF d n p) = 2 ∧ ¬ (lo ≤ nV d (tF d n p) (tU d n (tF d n p) - tF d n p) ∧ nV d (tF d n p) (tU d n (tF d n p) - tF d n p) ≤ hi) ∧ y = none ∧ vI v' 98 18 = 2 ∧ vI v' 98 19 = tF d n p) ∨ (¬ tK d n (tF d n p) = 2 ∧ y = none ∧ vI v' 98 18 = 1 ∧ vI v' 98 19 = tF d n p))
theorem rulesLoop (d : Nat → Int) (n : Nat) (hn : n ≤ 400) : ∀ (r p : Nat) (S : Nat → Bool) (R : Nat → Int), n - p = r → p ≤ n → RB R → ∃ (ok : Bool) (x fk fp : Int) (V : Nat → Int), (ok = true → RB V ∧ 0 ≤ x ∧ x ≤ 6) ∧ (ok = false → x = -1) ∧
    (∀ (g : Nat) (a2 : Int32) (w : qM), n - p < g → TC w d n → vI w 3 3 = p → (∀ k, k < 6 → bt a2 k = S k) → (∀ k, k < 6 → vI w 6 k = R k) → wp (fX7_takeText_20 fX7_takeText_86 g a2 (Zi (fb_ct S 6)) w) (clR ok x fk fp V w)) ∧
    (∀ (g : Nat) (v : qM), n - p < g → MT v d n p → (∀ k, k < 6 → vI v 111 k = bI (S k)) → (∀ k, k < 6 → vI v 100 k = R k) → wp (fX13_readRules_44 g (Zi (fb_ct S 6)) v) (clM ok x fk fp V v)) := by
  intro r
  induction r using Nat.strongRecOn with
  | _ r ih =>
  intro p S R hr hp hR
  have hS := fb_ct_le S 6
  obtain ⟨f1, f2⟩ := tF_r d n p hp
  obtain ⟨u1, u2⟩ := tU_r d n (tF d n p) f2
  have kr := tK_r d n (tF d n p)
  have key := keyV_r d (tF d n p) (tU d n (tF d n p)) (tK d n (tF d n p))
  -- the first token, seen by both
  have headC : ∀ (w : qM), TC w d n → vI w 3 3 = p → ∃ w1, fX6_step w = some ((), w1) ∧ Fr (fun c k => c = 3 ∧ 1 ≤ k ∧ k ≤ 3) w w1 ∧ TC w1 d n ∧ vI w1 3 2 = tF d n p ∧ vI w1 3 3 = tU d n (tF d n p) ∧ fX6_isAtEnd w1 = some (Zi (bI (decide (tK d n (tF d n p) = 0))), w1) ∧ fX6_wordOf 10100 w1 = some (Zi (keyV d (tF d n p) (tU d n (tF d n p)) (tK d n (tF d n p))), w1) := by
    intro w hT h33
    obtain ⟨x, w1, e, hF, h2, h3, h1⟩ := step_s w d n hT p h33 hp
    have hT1 : TC w1 d n := hT.mono fun c k hc => hF.1 c k (by omega)
    exact ⟨w1, e, hF, hT1, h2, h3, end_s w1 _ h1 kr, key_C w1 d n hT1 _ _ _ h1 h2 h3 ⟨u1, u2⟩ kr⟩
  have headM : ∀ (v : qM), MT v d n p → vI v 98 16 = tK d n (tF d n p) ∧ fX13_key v = some (Zi (keyV d (tF d n p) (tU d n (tF d n p)) (tK d n (tF d n p))), v) := fun v hM => ⟨hM.2.2.2.2.1, key_M v d n hM.1 _ _ _ hM.2.2.1 hM.2.2.2.1 hM.2.2.2.2.1 ⟨u1, u2⟩ kr (fun h => tok_word h)⟩
  by_cases k0 : tK d n (tF d n p) = 0
  · -- the end
    refine ⟨true, fb_ct S 6, 0, 0, R, fun _ => ⟨hR, by omega, by omega⟩, fun h => (by cases h), ?_, ?_⟩
    · intro g a2 w hg hT h33 hb h6
      obtain ⟨g, rfl⟩ : ∃ g', g = g' + 1 := ⟨g - 1, by omega⟩
      obtain ⟨w1, e1, hF, hT1, h2, h3, he, hk⟩ := headC w hT h33
      rw [decide_eq_true k0] at he
      refine wp_e (x := Zi (fb_ct S 6)) (m := sC w1 6 5 6) ?_ ⟨rfl, ⟨fun c k hc => ?_, ?_, ?_⟩, fun _ => ⟨fun k hk => ?_, ?_, ?_⟩, fun h => (by cases h)⟩
      · rw [fX7_takeText_20]
        simp (disch := omega) only [qbI_s, qbL_s, qbV_s, qbR_s, qbR_n, qbN_s, qbN_n, qbIX_s, qbIX_n, qbVX_s, qbVX_n, cond_true, cond_false, cond_dec, jadd, jsub, jmul, jneg, li_0, li_1, li_2, li_3, li_4, li_5, li_6, li_7, li_8, li_9, li_10, li_14, li_15, li_16, li_19, li_20, li_24, li_30, li_31, li_32, li_39, li_40, li_48, li_57, li_59, li_60, li_63, li_65, li_80, li_81, li_90, li_97, li_99, li_100, li_122, li_126, li_127, li_150, li_160, li_200, li_225, li_255, li_400, li_799, li_800, li_999, li_2400, li_3239, li_3240, li_1048575, li_1431655765, li_858993459, li_252645135, eqb_j, ltb_j, leb_j, inb_j, ix_j, ix_n, nz_b, nz_0, nz_1, eqb_b, bnot, vI_ne, vI_eq, gIL, gLI, gIR, gRI, gLR, gRL, Int.reduceLT, Int.reduceLE, Int.reduceEq, Int.reduceAdd, Int.reduceSub, Int.reduceMul, Int.reduceNeg, Int.reduceToNat, Nat.reduceEqDiff, reduceIte, if_neg, if_pos, gI_ne, e1, he, show bI true = 1 from rfl, show Nat.ble 6 6 = true from rfl, ix_6]
      · rw [gI_sC, if_neg (by omega)]
        exact hF.1 c k (by omega)
      · rw [gL_sC]; exact hF.2.1
      · rw [gR_sC]; exact hF.2.2
      · rw [vI_of (show gI (sC w1 6 5 6) 5 k = gI w1 6 k by rw [gI_sC, if_pos ⟨rfl, hk⟩]), hF.v 6 k (by omega)]
        exact h6 k hk
      · rw [gI_sC, if_neg (by omega)]; exact hF.1 3 4 (by omega)
      · rw [gI_sC, if_neg (by omega)]; exact hF.1 3 5 (by omega)
    · intro g v hg hM h1 h6
      obtain ⟨g, rfl⟩ : ∃ g', g = g' + 1 := ⟨g - 1, by omega⟩
      obtain ⟨h16, hk⟩ := headM v hM
      refine wp_e (x := some (Zi (fb_ct S 6))) (m := v) ?_ ⟨rfl, Fr.rf v, fun _ => ⟨h6, rfl, rfl⟩, fun h => (by cases h)⟩
      rw [fX13_readRules_44]
      simp (disch := omega) only [qbI_s, qbL_s, qbV_s, qbR_s, qbR_n, qbN_s, qbN_n, qbIX_s, qbIX_n, qbVX_s, qbVX_n, cond_true, cond_false, cond_dec, jadd, jsub, jmul, jneg, li_0, li_1, li_2, li_3, li_4, li_5, li_6, li_7, li_8, li_9, li_10, li_14, li_15, li_16, li_19, li_20, li_24, li_30, li_31, li_32, li_39, li_40, li_48, li_57, li_59, li_60, li_63, li_65, li_80, li_81, li_90, li_97, li_99, li_100, li_122, li_126, li_127, li_150, li_160, li_200, li_225, li_255, li_400, li_799, li_800, li_999, li_2400, li_3239, li_3240, li_1048575, li_1431655765, li_858993459, li_252645135, eqb_j, ltb_j, leb_j, inb_j, ix_j, ix_n, nz_b, nz_0, nz_1, eqb_b, bnot, vI_ne, vI_eq, gIL, gLI, gIR, gRI, gLR, gRL, Int.reduceLT, Int.reduceLE, Int.reduceEq, Int.reduceAdd, Int.reduceSub, Int.reduceMul, Int.reduceNeg, Int.reduceToNat, Nat.reduceEqDiff, reduceIte, if_neg, if_pos, gI_ne, gIv 98, h16, k0]
  · -- a fault at the first token, or a word
    have fault : ∀ fk : Int, -2147483648 ≤ fk ∧ fk < 2147483648 → (∀ (g : Nat) (a2 : Int32) (w w1 : qM), (∀ k, k < 6 → bt a2 k = S k) → Fr (fun c k => c = 3 ∧ 1 ≤ k ∧ k ≤ 3) w w1 → vI w1 3 2 = tF d n p → fX6_step w = some ((), w1) → fX6_isAtEnd w1 = some (Zi 0, w1) → fX6_wordOf 10100 w1 = some (Zi (keyV d (tF d n p) (tU d n (tF d n p)) (tK d n (tF d n p))), w1) → fX7_takeText_20 fX7_takeText_86 (g + 1) a2 (Zi (fb_ct S 6)) w = some (Zi (-1), sI (sI w1 3 4 (Zi fk)) 3 5 (gI w1 3 2))) → (∀ (g : Nat) (v : qM), (∀ k, k < 6 → vI v 111 k = bI (S k)) → vI v 98 16 = tK d n (tF d n p) → fX13_key v = some (Zi (keyV d (tF d n p) (tU d n (tF d n p)) (tK d n (tF d n p))), v) → fX13_readRules_44 (g + 1) (Zi (fb_ct S 6)) v = some (none, sI (sI v 98 18 (Zi fk)) 98 19 (gI v 98 14))) → ∃ (ok : Bool) (x fk fp : Int) (V : Nat → Int), (ok = true → RB V ∧ 0 ≤ x ∧ x ≤ 6) ∧ (ok = false → x = -1) ∧ (∀ (g : Nat) (a2 : Int32) (w : qM), n - p < g → TC w d n → vI w 3 3 = p → (∀ k, k < 6 → bt a2 k = S k) → (∀ k, k < 6 → vI w 6 k = R k) → wp (fX7_takeText_20 fX7_takeText_86 g a2 (Zi (fb_ct S 6)) w) (clR ok x fk fp V w)) ∧ (∀ (g : Nat) (v : qM), n - p < g → MT v d n p → (∀ k, k < 6 → vI v 111 k = bI (S k)) → (∀ k, k < 6 → vI v 100 k = R k) → wp (fX13_readRules_44 g (Zi (fb_ct S 6)) v) (clM ok x fk fp V v)) := by
      intro fk hfk hc hm
      refine ⟨false, -1, fk, tF d n p, R, fun h => (by cases h), fun _ => rfl, ?_, ?_⟩
      · intro g a2 w hg hT h33 hb h6
        obtain ⟨g, rfl⟩ : ∃ g', g = g' + 1 := ⟨g - 1, by omega⟩
        obtain ⟨w1, e1, hF, hT1, h2, h3, he, hk⟩ := headC w hT h33
        rw [decide_eq_false k0] at he
        refine wp_e (hc g a2 w w1 hb hF h2 e1 he hk) ⟨rfl, ((hF.wide fun c k hc => by omega).wI 3 4 _ (by omega)).wI 3 5 _ (by omega), fun h => (by cases h), fun _ => ⟨fun k => ?_, ?_, ?_⟩⟩
        · rw [gI_sI, if_neg (by omega), gI_sI, if_neg (by omega), hF.1 5 k (by omega)]
        · rw [vI_nk (by omega), vI_eq hfk, if_pos rfl]
        · rw [gIv 3, h2, vI_eq (by omega), if_pos rfl]
      · intro g v hg hM h1 h6
        obtain ⟨g, rfl⟩ : ∃ g', g = g' + 1 := ⟨g - 1, by omega⟩
        obtain ⟨h16, hk⟩ := headM v hM
        refine wp_e (hm g v h1 h16 hk) ⟨rfl, ((Fr.rf v).wI 98 18 _ (by omega)).wI 98 19 _ (by omega), fun h => (by cases h), fun _ => ⟨?_, ?_⟩⟩
        · rw [vI_nk (by omega), vI_eq hfk, if_pos rfl]
        · rw [gIv 98, hM.2.2.1, vI_eq (by omega), if_pos rfl]
    by_cases kq : keyV d (tF d n p) (tU d n (tF d n p)) (tK d n (tF d n p)) = -1
    · refine fault 1 (by omega) ?_ ?_
      · intro g a2 w w1 hb hF h2 e1 he hk
        rw [fX7_takeText_20]
        simp (disch := omega) only [qbI_s, qbL_s, qbV_s, qbR_s, qbR_n, qbN_s, qbN_n, qbIX_s, qbIX_n, qbVX_s, qbVX_n, cond_true, cond_false, cond_dec, jadd, jsub, jmul, jneg, li_0, li_1, li_2, li_3, li_4, li_5, li_6, li_7, li_8, li_9, li_10, li_14, li_15, li_16, li_19, li_20, li_24, li_30, li_31, li_32, li_39, li_40, li_48, li_57, li_59, li_60, li_63, li_65, li_80, li_81, li_90, li_97, li_99, li_100, li_122, li_126, li_127, li_150, li_160, li_200, li_225, li_255, li_400, li_799, li_800, li_999, li_2400, li_3239, li_3240, li_1048575, li_1431655765, li_858993459, li_252645135, eqb_j, ltb_j, leb_j, inb_j, ix_j, ix_n, nz_b, nz_0, nz_1, eqb_b, bnot, vI_ne, vI_eq, gIL, gLI, gIR, gRI, gLR, gRL, Int.reduceLT, Int.reduceLE, Int.reduceEq, Int.reduceAdd, Int.reduceSub, Int.reduceMul, Int.reduceNeg, Int.reduceToNat, Nat.reduceEqDiff, reduceIte, if_neg, if_pos, gI_ne, e1, he, hk, kq, within_s, false_and, decide_false, show bI false = 0 from rfl, fail_s]
      · intro g v h1 h16 hk
        rw [fX13_readRules_44]
        simp (disch := omega) only [qbI_s, qbL_s, qbV_s, qbR_s, qbR_n, qbN_s, qbN_n, qbIX_s, qbIX_n, qbVX_s, qbVX_n, cond_true, cond_false, cond_dec, jadd, jsub, jmul, jneg, li_0, li_1, li_2, li_3, li_4, li_5, li_6, li_7, li_8, li_9, li_10, li_14, li_15, li_16, li_19, li_20, li_24, li_30, li_31, li_32, li_39, li_40, li_48, li_57, li_59, li_60, li_63, li_65, li_80, li_81, li_90, li_97, li_99, li_100, li_122, li_126, li_127, li_150, li_160, li_200, li_225, li_255, li_400, li_799, li_800, li_999, li_2400, li_3239, li_3240, li_1048575, li_1431655765, li_858993459, li_252645135, eqb_j, ltb_j, leb_j, inb_j, ix_j, ix_n, nz_b, nz_0, nz_1, eqb_b, bnot, vI_ne, vI_eq, gIL, gLI, gIR, gRI, gLR, gRL, Int.reduceLT, Int.reduceLE, Int.reduceEq, Int.reduceAdd, Int.reduceSub, Int.reduceMul, Int.reduceNeg, Int.reduceToNat, Nat.reduceEqDiff, reduceIte, if_neg, if_pos, gI_ne, gIv 98, h16, hk, kq, wrong_s, show Nat.beq 109 109 = true from rfl]
    · obtain ⟨q, hq⟩ : ∃ q : Nat, keyV d (tF d n p) (tU d n (tF d n p)) (tK d n (tF d n p)) = q := ⟨(keyV d (tF d n p) (tU d n (tF d n p)) (tK d n (tF d n p))).toNat, by omega⟩
      have q6 : q < 6 := by omega
      cases hSq : S q
      · obtain ⟨lh1, lh2, lh3, lh4⟩ := lohi q q6
        have lo0 : q = 0 ∧ loR q = 1 ∨ ¬ q = 0 ∧ loR q = 0 := (by decide : ∀ q, q < 6 → q = 0 ∧ loR q = 1 ∨ ¬ q = 0 ∧ loR q = 0) q q6
        obtain ⟨g1, g2⟩ := tF_r d n (tU d n (tF d n p)) u2
        obtain ⟨v1, v2⟩ := tU_r d n (tF d n (tU d n (tF d n p))) g2
        have pos := tok_pos f2 k0
        have preC : ∀ (g : Nat) (a2 : Int32) (w : qM), TC w d n → vI w 3 3 = p → (∀ k, k < 6 → bt a2 k = S k) → ∃ (w1 w2 : qM) (y : Int32), Fr (fun c k => c = 3 ∧ 1 ≤ k ∧ k ≤ 3) w w1 ∧ fX6_takeNumber (Zi (loR q)) (Zi (hiR q)) w1 = some (y, w2) ∧ nC d n (tU d n (tF d n p)) (loR q) (hiR q) w1 y w2 ∧ TC w1 d n ∧ vI w1 3 3 = tU d n (tF d n p) ∧ fX7_takeText_20 fX7_takeText_86 (g + 1) a2 (Zi (fb_ct S 6)) w = (bif eqb (gI (sI w2 6 q y) 6 q) (Zi (-1)) then fX7_takeText_86 (sI w2 6 q y) else qbI (fX6_takeSemicolon (sI w2 6 q y)) (fun x15 m16 => bif eqb x15 (Zi 0) then fX7_takeText_86 m16 else fX7_takeText_20 fX7_takeText_86 g (a2 ||| ((1 : Int32) <<< (nI q &&& 31))) (Zi ((fb_ct S 6 : Int) + 1)) m16)) := by
          intro g a2 w hT h33 hb
          obtain ⟨w1, e1, hF, hT1, h2, h3, he, hk⟩ := headC w hT h33
          rw [decide_eq_false k0] at he
          have hb2 := has_s a2 q (by omega) w1
          rw [hb q q6, hSq] at hb2
          obtain ⟨y, w2, e2, hd⟩ := takeNum_s w1 d n _ hT1 h3 u2 (loR q) (hiR q) (by omega) (by omega)
          refine ⟨w1, w2, y, hF, e2, hd, hT1, h3, ?_⟩
          rw [fX7_takeText_20]
          simp (disch := omega) only [qbI_s, qbL_s, qbV_s, qbR_s, qbR_n, qbN_s, qbN_n, qbIX_s, qbIX_n, qbVX_s, qbVX_n, cond_true, cond_false, cond_dec, jadd, jsub, jmul, jneg, li_0, li_1, li_2, li_3, li_4, li_5, li_6, li_7, li_8, li_9, li_10, li_14, li_15, li_16, li_19, li_20, li_24, li_30, li_31, li_32, li_39, li_40, li_48, li_57, li_59, li_60, li_63, li_65, li_80, li_81, li_90, li_97, li_99, li_100, li_122, li_126, li_127, li_150, li_160, li_200, li_225, li_255, li_400, li_799, li_800, li_999, li_2400, li_3239, li_3240, li_1048575, li_1431655765, li_858993459, li_252645135, eqb_j, ltb_j, leb_j, inb_j, ix_j, ix_n, nz_b, nz_0, nz_1, eqb_b, bnot, vI_ne, vI_eq, gIL, gLI, gIR, gRI, gLR, gRL, Int.reduceLT, Int.reduceLE, Int.reduceEq, Int.reduceAdd, Int.reduceSub, Int.reduceMul, Int.reduceNeg, Int.reduceToNat, Nat.reduceEqDiff, reduceIte, if_neg, if_pos, gI_ne, e1, he, hk, hq, within_s, bI_dec, hb2, lh1, lh2, e2, show bI false = 0 from rfl]
          rfl
        have preM : ∀ (g : Nat) (v : qM), MT v d n p → (∀ k, k < 6 → vI v 111 k = bI (S k)) → ∃ (v1 v2 : qM) (y : Option Int32), Fr (fun c k => c = 98 ∧ 14 ≤ k ∧ k ≤ 17 ∨ c = 111 ∧ k = q) v v1 ∧ vI v1 111 q = 1 ∧ fX13_number (Zi (loR q)) (Zi (hiR q)) v1 = some (y, v2) ∧ nM d n (tU d n (tF d n p)) (loR q) (hiR q) v1 y v2 ∧ MT v1 d n (tU d n (tF d n p)) ∧ fX13_readRules_44 (g + 1) (Zi (fb_ct S 6)) v = qbIX (some (y, v2)) (fun x20 m18 => qbVX (fX13_close (sI m18 100 q x20)) (fun m22 => fX13_readRules_44 g (Zi ((fb_ct S 6 : Int) + 1)) m22) (fun m23 => some (none, m23))) (fun m19 => some (none, m19)) := by
          intro g v hM h1
          obtain ⟨h16, hk⟩ := headM v hM
          have h1q := h1 q q6
          rw [hSq] at h1q
          obtain ⟨x, v1, e1, hM1, hF1⟩ := MT.of (v := sI v 111 q (Zi 1)) (d := d) (n := n) (p := tU d n (tF d n p)) (hM.1.mono fun c k hc => by rw [gI_sI, if_neg (by omega)]) (by rw [vI_nk (by omega)]; exact hM.2.2.2.1) u2
          obtain ⟨y, v2, e2, hd⟩ := number_s v1 d n _ hM1 (loR q) (hiR q) (by omega) (by omega)
          refine ⟨v1, v2, y, ((Fr.rf v).wI 111 q _ (by omega)).tr (hF1.wide fun c k hc => by omega), by rw [hF1.v 111 q (by omega), vI_eq (by omega), if_pos rfl], e2, hd, hM1, ?_⟩
          rw [fX13_readRules_44]
          rcases lo0 with ⟨l0, l1⟩ | ⟨l0, l1⟩
          · rw [l1] at e2
            simp (disch := omega) only [qbI_s, qbL_s, qbV_s, qbR_s, qbR_n, qbN_s, qbN_n, qbIX_s, qbIX_n, qbVX_s, qbVX_n, cond_true, cond_false, cond_dec, jadd, jsub, jmul, jneg, li_0, li_1, li_2, li_3, li_4, li_5, li_6, li_7, li_8, li_9, li_10, li_14, li_15, li_16, li_19, li_20, li_24, li_30, li_31, li_32, li_39, li_40, li_48, li_57, li_59, li_60, li_63, li_65, li_80, li_81, li_90, li_97, li_99, li_100, li_122, li_126, li_127, li_150, li_160, li_200, li_225, li_255, li_400, li_799, li_800, li_999, li_2400, li_3239, li_3240, li_1048575, li_1431655765, li_858993459, li_252645135, eqb_j, ltb_j, leb_j, inb_j, ix_j, ix_n, nz_b, nz_0, nz_1, eqb_b, bnot, vI_ne, vI_eq, gIL, gLI, gIR, gRI, gLR, gRL, Int.reduceLT, Int.reduceLE, Int.reduceEq, Int.reduceAdd, Int.reduceSub, Int.reduceMul, Int.reduceNeg, Int.reduceToNat, Nat.reduceEqDiff, reduceIte, if_neg, if_pos, gI_ne, gIv 98, h16, hk, hq, gIv 111, h1q, e1, show bI false = 0 from rfl, fX13_readRules_82, most_s, e2]
          · rw [l1] at e2
            simp (disch := omega) only [qbI_s, qbL_s, qbV_s, qbR_s, qbR_n, qbN_s, qbN_n, qbIX_s, qbIX_n, qbVX_s, qbVX_n, cond_true, cond_false, cond_dec, jadd, jsub, jmul, jneg, li_0, li_1, li_2, li_3, li_4, li_5, li_6, li_7, li_8, li_9, li_10, li_14, li_15, li_16, li_19, li_20, li_24, li_30, li_31, li_32, li_39, li_40, li_48, li_57, li_59, li_60, li_63, li_65, li_80, li_81, li_90, li_97, li_99, li_100, li_122, li_126, li_127, li_150, li_160, li_200, li_225, li_255, li_400, li_799, li_800, li_999, li_2400, li_3239, li_3240, li_1048575, li_1431655765, li_858993459, li_252645135, eqb_j, ltb_j, leb_j, inb_j, ix_j, ix_n, nz_b, nz_0, nz_1, eqb_b, bnot, vI_ne, vI_eq, gIL, gLI, gIR, gRI, gLR, gRL, Int.reduceLT, Int.reduceLE, Int.reduceEq, Int.reduceAdd, Int.reduceSub, Int.reduceMul, Int.reduceNeg, Int.reduceToNat, Nat.reduceEqDiff, reduceIte, if_neg, if_pos, gI_ne, gIv 98, h16, hk, hq, gIv 111, h1q, e1, show bI false = 0 from rfl, fX13_readRules_82, most_s, e2]
        -- a number that is none, or too great or small
        have bad : ∀ fk : Int, -2147483648 ≤ fk ∧ fk < 2147483648 → (∀ (m w2 : qM) (y : Int32), nC d n (tU d n (tF d n p)) (loR q) (hiR q) m y w2 → y = Zi (-1) ∧ vI w2 3 4 = fk ∧ vI w2 3 5 = tF d n (tU d n (tF d n p))) → (∀ (v v2 : qM) (y : Option Int32), nM d n (tU d n (tF d n p)) (loR q) (hiR q) v y v2 → y = none ∧ vI v2 98 18 = fk ∧ vI v2 98 19 = tF d n (tU d n (tF d n p))) → ∃ (ok : Bool) (x fk fp : Int) (V : Nat → Int), (ok = true → RB V ∧ 0 ≤ x ∧ x ≤ 6) ∧ (ok = false → x = -1) ∧ (∀ (g : Nat) (a2 : Int32) (w : qM), n - p < g → TC w d n → vI w 3 3 = p → (∀ k, k < 6 → bt a2 k = S k) → (∀ k, k < 6 → vI w 6 k = R k) → wp (fX7_takeText_20 fX7_takeText_86 g a2 (Zi (fb_ct S 6)) w) (clR ok x fk fp V w)) ∧ (∀ (g : Nat) (v : qM), n - p < g → MT v d n p → (∀ k, k < 6 → vI v 111 k = bI (S k)) → (∀ k, k < 6 → vI v 100 k = R k) → wp (fX13_readRules_44 g (Zi (fb_ct S 6)) v) (clM ok x fk fp V v)) := by
          intro fk hfk hc hm
          refine ⟨false, -1, fk, tF d n (tU d n (tF d n p)), R, fun h => (by cases h), fun _ => rfl, ?_, ?_⟩
          · intro g a2 w hg hT h33 hb h6
            obtain ⟨g, rfl⟩ : ∃ g', g = g' + 1 := ⟨g - 1, by omega⟩
            obtain ⟨w1, w2, y, hF, e2, hd, hT1, h3, eq⟩ := preC g a2 w hT h33 hb
            obtain ⟨hy, h4, h5⟩ := hc w1 w2 y hd
            subst hy
            refine wp_e (x := Zi (-1)) (m := sI w2 6 q (Zi (-1))) ?_ ⟨rfl, ((hF.wide fun c k hc => by omega).tr (hd.1.wide fun c k hc => by omega)).wI 6 q _ (by omega), fun h => (by cases h), fun _ => ⟨fun k => ?_, ?_, ?_⟩⟩
            · rw [eq, gI_sI, if_pos ⟨rfl, rfl⟩]
              simp (disch := omega) only [qbI_s, qbL_s, qbV_s, qbR_s, qbR_n, qbN_s, qbN_n, qbIX_s, qbIX_n, qbVX_s, qbVX_n, cond_true, cond_false, cond_dec, jadd, jsub, jmul, jneg, li_0, li_1, li_2, li_3, li_4, li_5, li_6, li_7, li_8, li_9, li_10, li_14, li_15, li_16, li_19, li_20, li_24, li_30, li_31, li_32, li_39, li_40, li_48, li_57, li_59, li_60, li_63, li_65, li_80, li_81, li_90, li_97, li_99, li_100, li_122, li_126, li_127, li_150, li_160, li_200, li_225, li_255, li_400, li_799, li_800, li_999, li_2400, li_3239, li_3240, li_1048575, li_1431655765, li_858993459, li_252645135, eqb_j, ltb_j, leb_j, inb_j, ix_j, ix_n, nz_b, nz_0, nz_1, eqb_b, bnot, vI_ne, vI_eq, gIL, gLI, gIR, gRI, gLR, gRL, Int.reduceLT, Int.reduceLE, Int.reduceEq, Int.reduceAdd, Int.reduceSub, Int.reduceMul, Int.reduceNeg, Int.reduceToNat, Nat.reduceEqDiff, reduceIte, if_neg, if_pos, gI_ne, fX7_takeText_86]
            · rw [gI_sI, if_neg (by omega), hd.1.1 5 k (by omega), hF.1 5 k (by omega)]
            · rw [vI_ne (by omega)]; exact h4
            · rw [vI_ne (by omega)]; exact h5
          · intro g v hg hM h1 h6
            obtain ⟨g, rfl⟩ : ∃ g', g = g' + 1 := ⟨g - 1, by omega⟩
            obtain ⟨v1, v2, y, hF, h111, e2, hd, hM1, eq⟩ := preM g v hM h1
            obtain ⟨hy, h4, h5⟩ := hm v1 v2 y hd
            subst hy
            refine wp_e (x := none) (m := v2) ?_ ⟨rfl, (hF.wide fun c k hc => by omega).tr (hd.1.wide fun c k hc => by omega), fun h => (by cases h), fun _ => ⟨h4, h5⟩⟩
            rw [eq, qbIX_n]
        by_cases k1 : tK d n (tF d n (tU d n (tF d n p))) = 2
        · have nr := nV_cast k1
          by_cases hin : loR q ≤ nV d (tF d n (tU d n (tF d n p))) (tU d n (tF d n (tU d n (tF d n p))) - tF d n (tU d n (tF d n p))) ∧ nV d (tF d n (tU d n (tF d n p))) (tU d n (tF d n (tU d n (tF d n p))) - tF d n (tU d n (tF d n p))) ≤ hiR q
          · obtain ⟨z, hz⟩ : ∃ z, z = nV d (tF d n (tU d n (tF d n p))) (tU d n (tF d n (tU d n (tF d n p))) - tF d n (tU d n (tF d n p))) := ⟨_, rfl⟩
            obtain ⟨U, hU⟩ : ∃ U, U = tU d n (tF d n (tU d n (tF d n p))) := ⟨_, rfl⟩
            rw [← hz] at nr hin
            rw [← hU] at v1 v2
            have nc : ∀ (m w2 : qM) (y : Int32), nC d n (tU d n (tF d n p)) (loR q) (hiR q) m y w2 → y = Zi z ∧ vI w2 3 3 = U ∧ gI w2 3 4 = gI m 3 4 ∧ gI w2 3 5 = gI m 3 5 := fun m w2 y h => by
              rcases h.2 with h | h | h
              · rw [← hz, ← hU] at h; exact h.2.2
              · rw [← hz] at h; exact absurd hin h.2.1
              · exact absurd k1 h.1
            have nm : ∀ (m w2 : qM) (y : Option Int32), nM d n (tU d n (tF d n p)) (loR q) (hiR q) m y w2 → y = some (Zi z) ∧ MT w2 d n U ∧ gI w2 98 18 = gI m 98 18 ∧ gI w2 98 19 = gI m 98 19 := fun m w2 y h => by
              rcases h.2 with h | h | h
              · rw [← hz, ← hU] at h; exact h.2.2
              · rw [← hz] at h; exact absurd hin h.2.1
              · exact absurd k1 h.1
            obtain ⟨t1, t2⟩ := tF_r d n U v2
            obtain ⟨s1, s2⟩ := tU_r d n (tF d n U) t2
            by_cases k2 : tK d n (tF d n U) = 3
            · have hct : fb_ct (fun k => if k = q then true else S k) 6 = fb_ct S 6 + 1 := by
                have := fb_ct_upd S true q6
                rw [if_pos rfl, hSq, if_neg (by decide)] at this
                omega
              obtain ⟨ok, x, fk, fp, V, c1, c2, hC, hM⟩ := ih (n - tU d n (tF d n U)) (by omega) (tU d n (tF d n U)) (fun k => if k = q then true else S k) (fun k => if k = q then z else R k) rfl s2 (fun k hk => by
                show loR k ≤ (if k = q then z else R k) ∧ (if k = q then z else R k) ≤ hiR k
                by_cases e : k = q
                · rw [if_pos e, e]; exact hin
                · rw [if_neg e]; exact hR k hk)
              rw [show ((fb_ct (fun k => if k = q then true else S k) 6 : Nat) : Int) = (fb_ct S 6 : Int) + 1 by omega] at hC hM
              refine ⟨ok, x, fk, fp, V, c1, c2, ?_, ?_⟩
              · intro g a2 w hg hT h33 hb h6
                obtain ⟨g, rfl⟩ : ∃ g', g = g' + 1 := ⟨g - 1, by omega⟩
                obtain ⟨w1, w2, y, hF, e2, hd, hT1, h3, eq⟩ := preC g a2 w hT h33 hb
                obtain ⟨hy, h33', h4, h5⟩ := nc w1 w2 y hd
                subst hy
                have hT2 : TC (sI w2 6 q (Zi z)) d n := hT1.mono fun c k hc => by rw [gI_sI, if_neg (by omega), hd.1.1 c k (by omega)]
                obtain ⟨ys, w3, e3, hF3, hd3⟩ := takeSemi_s (sI w2 6 q (Zi z)) d n U hT2 (by rw [vI_ne (by omega)]; exact h33') v2
                rcases hd3 with hd3 | hd3
                · obtain ⟨-, rfl, h43, h44, h45⟩ := hd3
                  obtain ⟨yy, w9, e9, hy9, hF9, o9, b9⟩ := hC g (a2 ||| ((1 : Int32) <<< (nI q &&& 31))) w3 (by omega) (hT2.mono fun c k hc => hF3.1 c k (by omega)) h43 (fun k hk => by
                    rw [b_or, b_one (by omega) (by omega), hb k hk]
                    by_cases e : k = q
                    · rw [if_pos e, decide_eq_true e, Bool.or_true]
                    · rw [if_neg e, decide_eq_false e, Bool.or_false]) (fun k hk => by
                    rw [hF3.v 6 k (by omega), vI_eq (by omega)]
                    by_cases e : k = q
                    · rw [if_pos e, if_pos e]
                    · rw [if_neg e, if_neg e, hd.1.v 6 k (by omega), hF.v 6 k (by omega)]
                      exact h6 k hk)
                  have FF : Fr (fun c k => c = 3 ∧ 1 ≤ k ∧ k ≤ 5 ∨ c = 5 ∧ k < 6 ∨ c = 6) w w3 := (((hF.wide fun c k hc => by omega).tr (hd.1.wide fun c k hc => by omega)).wI 6 q _ (by omega)).tr (hF3.wide fun c k hc => by omega)
                  refine ⟨yy, w9, ?_, hy9, FF.tr hF9, fun h => ⟨(o9 h).1, ?_, ?_⟩, fun h => ⟨fun k => ?_, (b9 h).2⟩⟩
                  · rw [eq, gI_sI, if_pos ⟨rfl, rfl⟩]
                    simp (disch := omega) only [qbI_s, qbL_s, qbV_s, qbR_s, qbR_n, qbN_s, qbN_n, qbIX_s, qbIX_n, qbVX_s, qbVX_n, cond_true, cond_false, cond_dec, jadd, jsub, jmul, jneg, li_0, li_1, li_2, li_3, li_4, li_5, li_6, li_7, li_8, li_9, li_10, li_14, li_15, li_16, li_19, li_20, li_24, li_30, li_31, li_32, li_39, li_40, li_48, li_57, li_59, li_60, li_63, li_65, li_80, li_81, li_90, li_97, li_99, li_100, li_122, li_126, li_127, li_150, li_160, li_200, li_225, li_255, li_400, li_799, li_800, li_999, li_2400, li_3239, li_3240, li_1048575, li_1431655765, li_858993459, li_252645135, eqb_j, ltb_j, leb_j, inb_j, ix_j, ix_n, nz_b, nz_0, nz_1, eqb_b, bnot, vI_ne, vI_eq, gIL, gLI, gIR, gRI, gLR, gRL, Int.reduceLT, Int.reduceLE, Int.reduceEq, Int.reduceAdd, Int.reduceSub, Int.reduceMul, Int.reduceNeg, Int.reduceToNat, Nat.reduceEqDiff, reduceIte, if_neg, if_pos, gI_ne, e3]
                    exact e9
                  · rw [(o9 h).2.1, h44, gI_sI, if_neg (by omega), h4, hF.1 3 4 (by omega)]
                  · rw [(o9 h).2.2, h45, gI_sI, if_neg (by omega), h5, hF.1 3 5 (by omega)]
                  · rw [(b9 h).1 k, hF3.1 5 k (by omega), gI_sI, if_neg (by omega), hd.1.1 5 k (by omega), hF.1 5 k (by omega)]
                · exact absurd k2 hd3.1
              · intro g v hg hMv h1 h6
                obtain ⟨g, rfl⟩ : ∃ g', g = g' + 1 := ⟨g - 1, by omega⟩
                obtain ⟨w1, w2, y, hF, h111, e2, hd, hM1, eq⟩ := preM g v hMv h1
                obtain ⟨hy, hM2, h4, h5⟩ := nm w1 w2 y hd
                subst hy
                obtain ⟨yc, w3, e3, hF3, hd3⟩ := close_s (sI w2 100 q (Zi z)) d n U (hM2.mono fun c k hc => by rw [gI_sI, if_neg (by omega)])
                rcases hd3 with hd3 | hd3
                · obtain ⟨-, rfl, h43, h44, h45⟩ := hd3
                  obtain ⟨yy, w9, e9, hy9, hF9, o9, b9⟩ := hM g w3 (by omega) h43 (fun k hk => by
                    rw [hF3.v 111 k (by omega), vI_ne (by omega), hd.1.v 111 k (by omega)]
                    by_cases e : k = q
                    · rw [if_pos e, e, h111]; rfl
                    · rw [if_neg e, hF.v 111 k (by omega)]
                      exact h1 k hk) (fun k hk => by
                    rw [hF3.v 100 k (by omega), vI_eq (by omega)]
                    by_cases e : k = q
                    · rw [if_pos e, if_pos e]
                    · rw [if_neg e, if_neg e, hd.1.v 100 k (by omega), hF.v 100 k (by omega)]
                      exact h6 k hk)
                  have FF : Fr (fun c k => c = 98 ∧ 14 ≤ k ∧ k ≤ 19 ∨ c = 100 ∨ c = 111) v w3 := (((hF.wide fun c k hc => by omega).tr (hd.1.wide fun c k hc => by omega)).wI 100 q _ (by omega)).tr (hF3.wide fun c k hc => by omega)
                  refine ⟨yy, w9, ?_, hy9, FF.tr hF9, fun h => ⟨(o9 h).1, ?_, ?_⟩, b9⟩
                  · rw [eq, qbIX_s, e3, qbVX_s]
                    exact e9
                  · rw [(o9 h).2.1, h44, gI_sI, if_neg (by omega), h4, hF.1 98 18 (by omega)]
                  · rw [(o9 h).2.2, h45, gI_sI, if_neg (by omega), h5, hF.1 98 19 (by omega)]
                · exact absurd k2 hd3.1
            · refine ⟨false, -1, 1, tF d n U, R, fun h => (by cases h), fun _ => rfl, ?_, ?_⟩
              · intro g a2 w hg hT h33 hb h6
                obtain ⟨g, rfl⟩ : ∃ g', g = g' + 1 := ⟨g - 1, by omega⟩
                obtain ⟨w1, w2, y, hF, e2, hd, hT1, h3, eq⟩ := preC g a2 w hT h33 hb
                obtain ⟨hy, h33', h4, h5⟩ := nc w1 w2 y hd
                subst hy
                obtain ⟨ys, w3, e3, hF3, hd3⟩ := takeSemi_s (sI w2 6 q (Zi z)) d n U (hT1.mono fun c k hc => by rw [gI_sI, if_neg (by omega), hd.1.1 c k (by omega)]) (by rw [vI_ne (by omega)]; exact h33') v2
                rcases hd3 with hd3 | hd3
                · exact absurd hd3.1 k2
                · obtain ⟨-, rfl, h34, h35⟩ := hd3
                  refine wp_e (x := Zi (-1)) (m := w3) ?_ ⟨rfl, (((hF.wide fun c k hc => by omega).tr (hd.1.wide fun c k hc => by omega)).wI 6 q _ (by omega)).tr (hF3.wide fun c k hc => by omega), fun h => (by cases h), fun _ => ⟨fun k => ?_, h34, h35⟩⟩
                  · rw [eq, gI_sI, if_pos ⟨rfl, rfl⟩]
                    simp (disch := omega) only [qbI_s, qbL_s, qbV_s, qbR_s, qbR_n, qbN_s, qbN_n, qbIX_s, qbIX_n, qbVX_s, qbVX_n, cond_true, cond_false, cond_dec, jadd, jsub, jmul, jneg, li_0, li_1, li_2, li_3, li_4, li_5, li_6, li_7, li_8, li_9, li_10, li_14, li_15, li_16, li_19, li_20, li_24, li_30, li_31, li_32, li_39, li_40, li_48, li_57, li_59, li_60, li_63, li_65, li_80, li_81, li_90, li_97, li_99, li_100, li_122, li_126, li_127, li_150, li_160, li_200, li_225, li_255, li_400, li_799, li_800, li_999, li_2400, li_3239, li_3240, li_1048575, li_1431655765, li_858993459, li_252645135, eqb_j, ltb_j, leb_j, inb_j, ix_j, ix_n, nz_b, nz_0, nz_1, eqb_b, bnot, vI_ne, vI_eq, gIL, gLI, gIR, gRI, gLR, gRL, Int.reduceLT, Int.reduceLE, Int.reduceEq, Int.reduceAdd, Int.reduceSub, Int.reduceMul, Int.reduceNeg, Int.reduceToNat, Nat.reduceEqDiff, reduceIte, if_neg, if_pos, gI_ne, fX7_takeText_86, e3]
                  · rw [hF3.1 5 k (by omega), gI_sI, if_neg (by omega), hd.1.1 5 k (by omega), hF.1 5 k (by omega)]
              · intro g v hg hM h1 h6
                obtain ⟨g, rfl⟩ : ∃ g', g = g' + 1 := ⟨g - 1, by omega⟩
                obtain ⟨w1, w2, y, hF, h111, e2, hd, hM1, eq⟩ := preM g v hM h1
                obtain ⟨hy, hM2, h4, h5⟩ := nm w1 w2 y hd
                subst hy
                obtain ⟨yc, w3, e3, hF3, hd3⟩ := close_s (sI w2 100 q (Zi z)) d n U (hM2.mono fun c k hc => by rw [gI_sI, if_neg (by omega)])
                rcases hd3 with hd3 | hd3
                · exact absurd hd3.1 k2
                · obtain ⟨-, rfl, h34, h35⟩ := hd3
                  refine wp_e (x := none) (m := w3) ?_ ⟨rfl, (((hF.wide fun c k hc => by omega).tr (hd.1.wide fun c k hc => by omega)).wI 100 q _ (by omega)).tr (hF3.wide fun c k hc => by omega), fun h => (by cases h), fun _ => ⟨h34, h35⟩⟩
                  rw [eq, qbIX_s, e3, qbVX_n]
          · refine bad 2 (by omega) (fun m w2 y h => ?_) (fun m w2 y h => ?_)
            · rcases h.2 with h | h | h
              · exact absurd h.2.1 hin
              · exact h.2.2
              · exact absurd k1 h.1
            · rcases h.2 with h | h | h
              · exact absurd h.2.1 hin
              · exact h.2.2
              · exact absurd k1 h.1
        · refine bad 1 (by omega) (fun m w2 y h => ?_) (fun m w2 y h => ?_)
          · rcases h.2 with h | h | h
            · exact absurd h.1 k1
            · exact absurd h.1 k1
            · exact h.2
          · rcases h.2 with h | h | h
            · exact absurd h.1 k1
            · exact absurd h.1 k1
            · exact h.2
      · refine fault 3 (by omega) ?_ ?_
        · intro g a2 w w1 hb hF h2 e1 he hk
          have hb2 := has_s a2 q (by omega) w1
          rw [hb q q6, hSq] at hb2
          rw [fX7_takeText_20]
          simp (disch := omega) only [qbI_s, qbL_s, qbV_s, qbR_s, qbR_n, qbN_s, qbN_n, qbIX_s, qbIX_n, qbVX_s, qbVX_n, cond_true, cond_false, cond_dec, jadd, jsub, jmul, jneg, li_0, li_1, li_2, li_3, li_4, li_5, li_6, li_7, li_8, li_9, li_10, li_14, li_15, li_16, li_19, li_20, li_24, li_30, li_31, li_32, li_39, li_40, li_48, li_57, li_59, li_60, li_63, li_65, li_80, li_81, li_90, li_97, li_99, li_100, li_122, li_126, li_127, li_150, li_160, li_200, li_225, li_255, li_400, li_799, li_800, li_999, li_2400, li_3239, li_3240, li_1048575, li_1431655765, li_858993459, li_252645135, eqb_j, ltb_j, leb_j, inb_j, ix_j, ix_n, nz_b, nz_0, nz_1, eqb_b, bnot, vI_ne, vI_eq, gIL, gLI, gIR, gRI, gLR, gRL, Int.reduceLT, Int.reduceLE, Int.reduceEq, Int.reduceAdd, Int.reduceSub, Int.reduceMul, Int.reduceNeg, Int.reduceToNat, Nat.reduceEqDiff, reduceIte, if_neg, if_pos, gI_ne, e1, he, hk, hq, within_s, bI_dec, fail_s, hb2, show bI true = 1 from rfl]
        · intro g v h1 h16 hk
          have h1q := h1 q q6
          rw [hSq] at h1q
          rw [fX13_readRules_44]
          simp (disch := omega) only [qbI_s, qbL_s, qbV_s, qbR_s, qbR_n, qbN_s, qbN_n, qbIX_s, qbIX_n, qbVX_s, qbVX_n, cond_true, cond_false, cond_dec, jadd, jsub, jmul, jneg, li_0, li_1, li_2, li_3, li_4, li_5, li_6, li_7, li_8, li_9, li_10, li_14, li_15, li_16, li_19, li_20, li_24, li_30, li_31, li_32, li_39, li_40, li_48, li_57, li_59, li_60, li_63, li_65, li_80, li_81, li_90, li_97, li_99, li_100, li_122, li_126, li_127, li_150, li_160, li_200, li_225, li_255, li_400, li_799, li_800, li_999, li_2400, li_3239, li_3240, li_1048575, li_1431655765, li_858993459, li_252645135, eqb_j, ltb_j, leb_j, inb_j, ix_j, ix_n, nz_b, nz_0, nz_1, eqb_b, bnot, vI_ne, vI_eq, gIL, gLI, gIR, gRI, gLR, gRL, Int.reduceLT, Int.reduceLE, Int.reduceEq, Int.reduceAdd, Int.reduceSub, Int.reduceMul, Int.reduceNeg, Int.reduceToNat, Nat.reduceEqDiff, reduceIte, if_neg, if_pos, gI_ne, gIv 98, h16, hk, hq, gIv 111, h1q, wrong_s, show bI true = 1 from rfl, show Nat.beq 109 109 = true from rfl]
