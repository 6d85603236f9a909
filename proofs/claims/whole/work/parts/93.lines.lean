/-! the lines of a policy: both machines come to one outcome -/
def lsF (l q : Nat) : Nat → Nat → Prop := fun x k => x = 3 ∧ 1 ≤ k ∧ k ≤ 5 ∨ x = q ∧ k = 6 ∨ (x = q + 1 ∨ x = q + 5 ∨ x = q + 6) ∧ l ≤ k ∧ k < 8 ∨ (x = q + 2 ∨ x = q + 3 ∨ x = q + 4) ∧ 4 * l ≤ k ∧ k < 32
def lsG (l : Nat) : Nat → Nat → Prop := fun x k => x = 98 ∧ 14 ≤ k ∧ k ≤ 19 ∨ x = 101 ∧ k = 4 ∨ (x = 102 ∨ x = 103 ∨ x = 104) ∧ 32 + l ≤ k ∧ k < 40 ∨ (x = 105 ∨ x = 106 ∨ x = 107) ∧ 4 * (32 + l) ≤ k ∧ k < 160
def lsC (ok : Bool) (x : Int) (fk : Int) (fp : Nat) (N : Nat → Nat) (A B Z : Nat → Nat → Int) (S T : Nat → Int) (l q : Nat) (w : qM) (y : Int32) (w' : qM) : Prop := y = Zi x ∧ Fr (lsF l q) w w' ∧ (ok = true → vI w' q 6 = x ∧ (∀ i : Nat, l ≤ i → (i : Int) < x → liC (N i) (A i) (B i) (Z i) (S i) (T i) q i w') ∧ gI w' 3 4 = gI w 3 4 ∧ gI w' 3 5 = gI w 3 5) ∧ (ok = false → vI w' 3 4 = fk ∧ vI w' 3 5 = fp)
def lsM (ok : Bool) (x : Int) (fk : Int) (fp : Nat) (N : Nat → Nat) (A B Z : Nat → Nat → Int) (S T : Nat → Int) (l : Nat) (v : qM) (y : Option Int32) (v' : qM) : Prop := y = (if ok = true then some (Zi x) else none) ∧ Fr (lsG l) v v' ∧ (ok = true → vI v' 101 4 = x ∧ (∀ i : Nat, l ≤ i → (i : Int) < x → liM (N i) (A i) (B i) (Z i) (S i) (T i) (32 + i) v') ∧ gI v' 98 18 = gI v 98 18 ∧ gI v' 98 19 = gI v 98 19) ∧ (ok = false → vI v' 98 18 = fk ∧ vI v' 98 19 = fp)
theorem linesLoop (d : Nat → Int) (n : Nat) (hn : n ≤ 400) : ∀ (r p l : Nat), n - p = r → p ≤ n → l ≤ 8 → ∃ (ok : Bool) (x fk : Int) (fp : Nat) (N : Nat → Nat) (A B Z : Nat → Nat → Int) (S T : Nat → Int), (ok = true → (l : Int) ≤ x ∧ x ≤ 8 ∧ ∀ i : Nat, l ≤ i → (i : Int) < x → liR (N i) (A i) (B i) (Z i) (S i) (T i)) ∧ (ok = false → x = -1) ∧
    (∀ (g q : Nat) (w : qM), n - p < g → 9 ≤ q ∧ q ≤ 40 → qpol q = true → TC w d n → vI w 3 3 = p → wp (fX5_takeText_7 q (fX5_takeText_46 q) g (Zi l) w) (lsC ok x fk fp N A B Z S T l q w)) ∧
    (∀ (g : Nat) (v : qM), n - p < g → MT v d n p → vI v 101 4 = l → wp (fX13_readPolicy_5 g v) (lsM ok x fk fp N A B Z S T l v)) := by
  intro r
  induction r using Nat.strongRecOn with
  | _ r ih =>
  intro p l hr hp hl
  obtain ⟨f1, f2⟩ := tF_r d n p hp
  obtain ⟨u1, u2⟩ := tU_r d n (tF d n p) f2
  have kr := tK_r d n (tF d n p)
  have wr := woV_r 1 (by decide) d (tF d n p) (tU d n (tF d n p)) (tK d n (tF d n p))
  have headC : ∀ (w : qM), TC w d n → vI w 3 3 = p → ∃ w1, fX6_step w = some ((), w1) ∧ Fr (fun c k => c = 3 ∧ 1 ≤ k ∧ k ≤ 3) w w1 ∧ TC w1 d n ∧ vI w1 3 2 = tF d n p ∧ vI w1 3 3 = tU d n (tF d n p) ∧ fX6_isAtEnd w1 = some (Zi (bI (decide (tK d n (tF d n p) = 0))), w1) ∧ fX6_wordOf 10101 w1 = some (Zi (woV 1 d (tF d n p) (tU d n (tF d n p)) (tK d n (tF d n p))), w1) := by
    intro w hT h33
    obtain ⟨x, w1, e, hF, h2, h3, h1⟩ := step_s w d n hT p h33 hp
    have hT1 : TC w1 d n := hT.mono fun c k hc => hF.1 c k (by omega)
    exact ⟨w1, e, hF, hT1, h2, h3, end_s w1 _ h1 kr, wordOf_s w1 d n hT1 _ _ _ h1 h2 h3 ⟨u1, u2⟩ kr 1 (by decide)⟩
  have headM : ∀ (v : qM), MT v d n p → vI v 98 16 = tK d n (tF d n p) ∧ fX13_is 10101 v = some (Zi (bI (decide (woV 1 d (tF d n p) (tU d n (tF d n p)) (tK d n (tF d n p)) = 0))), v) := fun v hM => by
    refine ⟨hM.2.2.2.2.1, ?_⟩
    have h := is_s v d n hM.1 _ _ _ hM.2.2.1 hM.2.2.2.1 hM.2.2.2.2.1 ⟨u1, u2⟩ kr (fun h => tok_word h) 1 (by decide)
    have h' : fX13_is 10101 v = _ := h
    rw [h', woV_1]
    by_cases g : tK d n (tF d n p) = 1
    · rw [if_pos g, decide_eq_true g, Bool.true_and]
      cases wdB d (tF d n p) (tU d n (tF d n p)) 1
      · rfl
      · rfl
    · rw [if_neg g, decide_eq_false g, Bool.false_and]
      rfl
  by_cases k0 : tK d n (tF d n p) = 0
  · -- the end
    refine ⟨true, l, 0, 0, fun _ => 0, fun _ _ => 0, fun _ _ => 0, fun _ _ => 0, fun _ => 0, fun _ => 0, fun _ => ⟨Int.le_refl _, by omega, fun i h1 h2 => by omega⟩, fun h => (by cases h), ?_, ?_⟩
    · intro g q w hg hq hpol hT h33
      obtain ⟨g, rfl⟩ : ∃ g', g = g' + 1 := ⟨g - 1, by omega⟩
      obtain ⟨w1, e1, hF, hT1, h2, h3, he, hk⟩ := headC w hT h33
      rw [decide_eq_true k0] at he
      refine wp_e (x := Zi l) (m := sI w1 q 6 (Zi l)) ?_ ⟨rfl, (hF.wide fun c k hc => by unfold lsF; omega).wI q 6 _ (by unfold lsF; omega), fun _ => ⟨by rw [vI_eq (by omega), if_pos rfl], fun i h1 h2 => by omega, by rw [gI_ne (by omega)]; exact hF.1 3 4 (by omega), by rw [gI_ne (by omega)]; exact hF.1 3 5 (by omega)⟩, fun h => (by cases h)⟩
      rw [fX5_takeText_7]
      simp (disch := omega) only [qbI_s, qbL_s, qbV_s, qbR_s, qbR_n, qbN_s, qbN_n, qbIX_s, qbIX_n, qbVX_s, qbVX_n, cond_true, cond_false, cond_dec, jadd, jsub, jmul, jneg, li_0, li_1, li_2, li_3, li_4, li_5, li_6, li_7, li_8, li_9, li_10, li_14, li_15, li_16, li_19, li_20, li_24, li_30, li_31, li_32, li_39, li_40, li_48, li_57, li_59, li_60, li_63, li_65, li_80, li_81, li_90, li_97, li_99, li_100, li_122, li_126, li_127, li_150, li_160, li_200, li_225, li_255, li_400, li_799, li_800, li_999, li_2400, li_3239, li_3240, li_1048575, li_1431655765, li_858993459, li_252645135, eqb_j, ltb_j, leb_j, inb_j, ix_j, ix_n, nz_b, nz_0, nz_1, eqb_b, bnot, vI_ne, vI_eq, gIL, gLI, gIR, gRI, gLR, gRL, Int.reduceLT, Int.reduceLE, Int.reduceEq, Int.reduceAdd, Int.reduceSub, Int.reduceMul, Int.reduceNeg, Int.reduceToNat, Nat.reduceEqDiff, reduceIte, if_neg, if_pos, gI_ne, e1, he, show bI true = 1 from rfl]
    · intro g v hg hM h4
      obtain ⟨g, rfl⟩ : ∃ g', g = g' + 1 := ⟨g - 1, by omega⟩
      obtain ⟨h16, hk⟩ := headM v hM
      refine wp_e (x := some (Zi l)) (m := v) ?_ ⟨rfl, Fr.rf v, fun _ => ⟨h4, fun i h1 h2 => by omega, rfl, rfl⟩, fun h => (by cases h)⟩
      rw [fX13_readPolicy_5]
      simp (disch := omega) only [qbI_s, qbL_s, qbV_s, qbR_s, qbR_n, qbN_s, qbN_n, qbIX_s, qbIX_n, qbVX_s, qbVX_n, cond_true, cond_false, cond_dec, jadd, jsub, jmul, jneg, li_0, li_1, li_2, li_3, li_4, li_5, li_6, li_7, li_8, li_9, li_10, li_14, li_15, li_16, li_19, li_20, li_24, li_30, li_31, li_32, li_39, li_40, li_48, li_57, li_59, li_60, li_63, li_65, li_80, li_81, li_90, li_97, li_99, li_100, li_122, li_126, li_127, li_150, li_160, li_200, li_225, li_255, li_400, li_799, li_800, li_999, li_2400, li_3239, li_3240, li_1048575, li_1431655765, li_858993459, li_252645135, eqb_j, ltb_j, leb_j, inb_j, ix_j, ix_n, nz_b, nz_0, nz_1, eqb_b, bnot, vI_ne, vI_eq, gIL, gLI, gIR, gRI, gLR, gRL, Int.reduceLT, Int.reduceLE, Int.reduceEq, Int.reduceAdd, Int.reduceSub, Int.reduceMul, Int.reduceNeg, Int.reduceToNat, Nat.reduceEqDiff, reduceIte, if_neg, if_pos, gI_ne, gIv 98, h16, k0, gIv 101, h4]
  · -- a fault at the first token
    have fault : ∀ fk : Int, -2147483648 ≤ fk ∧ fk < 2147483648 → (∀ (g q : Nat) (w w1 : qM), fX6_step w = some ((), w1) → fX6_isAtEnd w1 = some (Zi 0, w1) → fX6_wordOf 10101 w1 = some (Zi (woV 1 d (tF d n p) (tU d n (tF d n p)) (tK d n (tF d n p))), w1) → fX5_takeText_7 q (fX5_takeText_46 q) (g + 1) (Zi l) w = some (Zi (-1), sI (sI w1 3 4 (Zi fk)) 3 5 (gI w1 3 2))) → (∀ (g : Nat) (v : qM), vI v 98 16 = tK d n (tF d n p) → vI v 101 4 = l → fX13_is 10101 v = some (Zi (bI (decide (woV 1 d (tF d n p) (tU d n (tF d n p)) (tK d n (tF d n p)) = 0))), v) → fX13_readPolicy_5 (g + 1) v = some (none, sI (sI v 98 18 (Zi fk)) 98 19 (gI v 98 14))) → ∃ (ok : Bool) (x fk : Int) (fp : Nat) (N : Nat → Nat) (A B Z : Nat → Nat → Int) (S T : Nat → Int), (ok = true → (l : Int) ≤ x ∧ x ≤ 8 ∧ ∀ i : Nat, l ≤ i → (i : Int) < x → liR (N i) (A i) (B i) (Z i) (S i) (T i)) ∧ (ok = false → x = -1) ∧
    (∀ (g q : Nat) (w : qM), n - p < g → 9 ≤ q ∧ q ≤ 40 → qpol q = true → TC w d n → vI w 3 3 = p → wp (fX5_takeText_7 q (fX5_takeText_46 q) g (Zi l) w) (lsC ok x fk fp N A B Z S T l q w)) ∧
    (∀ (g : Nat) (v : qM), n - p < g → MT v d n p → vI v 101 4 = l → wp (fX13_readPolicy_5 g v) (lsM ok x fk fp N A B Z S T l v)) := by
      intro fk hfk hc hm
      refine ⟨false, -1, fk, tF d n p, fun _ => 0, fun _ _ => 0, fun _ _ => 0, fun _ _ => 0, fun _ => 0, fun _ => 0, fun h => (by cases h), fun _ => rfl, ?_, ?_⟩
      · intro g q w hg hq hpol hT h33
        obtain ⟨g, rfl⟩ : ∃ g', g = g' + 1 := ⟨g - 1, by omega⟩
        obtain ⟨w1, e1, hF, hT1, h2, h3, he, hk⟩ := headC w hT h33
        rw [decide_eq_false k0] at he
        refine wp_e (hc g q w w1 e1 he hk) ⟨rfl, ((hF.wide fun c k hc => by unfold lsF; omega).wI 3 4 _ (by unfold lsF; omega)).wI 3 5 _ (by unfold lsF; omega), fun h => (by cases h), fun _ => ⟨?_, ?_⟩⟩
        · rw [vI_nk (by omega), vI_eq hfk, if_pos rfl]
        · rw [gIv 3, h2, vI_eq (by omega), if_pos rfl]
      · intro g v hg hM h4
        obtain ⟨g, rfl⟩ : ∃ g', g = g' + 1 := ⟨g - 1, by omega⟩
        obtain ⟨h16, hk⟩ := headM v hM
        refine wp_e (hm g v h16 h4 hk) ⟨rfl, ((Fr.rf v).wI 98 18 _ (by unfold lsG; omega)).wI 98 19 _ (by unfold lsG; omega), fun h => (by cases h), fun _ => ⟨?_, ?_⟩⟩
        · rw [vI_nk (by omega), vI_eq hfk, if_pos rfl]
        · rw [gIv 98, hM.2.2.1, vI_eq (by omega), if_pos rfl]
    by_cases hW : woV 1 d (tF d n p) (tU d n (tF d n p)) (tK d n (tF d n p)) = 0
    · by_cases h8 : l = 8
      · refine fault 4 (by omega) ?_ ?_
        · intro g q w w1 e1 he hk
          rw [fX5_takeText_7]
          simp (disch := omega) only [qbI_s, qbL_s, qbV_s, qbR_s, qbR_n, qbN_s, qbN_n, qbIX_s, qbIX_n, qbVX_s, qbVX_n, cond_true, cond_false, cond_dec, jadd, jsub, jmul, jneg, li_0, li_1, li_2, li_3, li_4, li_5, li_6, li_7, li_8, li_9, li_10, li_14, li_15, li_16, li_19, li_20, li_24, li_30, li_31, li_32, li_39, li_40, li_48, li_57, li_59, li_60, li_63, li_65, li_80, li_81, li_90, li_97, li_99, li_100, li_122, li_126, li_127, li_150, li_160, li_200, li_225, li_255, li_400, li_799, li_800, li_999, li_2400, li_3239, li_3240, li_1048575, li_1431655765, li_858993459, li_252645135, eqb_j, ltb_j, leb_j, inb_j, ix_j, ix_n, nz_b, nz_0, nz_1, eqb_b, bnot, vI_ne, vI_eq, gIL, gLI, gIR, gRI, gLR, gRL, Int.reduceLT, Int.reduceLE, Int.reduceEq, Int.reduceAdd, Int.reduceSub, Int.reduceMul, Int.reduceNeg, Int.reduceToNat, Nat.reduceEqDiff, reduceIte, if_neg, if_pos, gI_ne, e1, he, hk, hW, h8, fail_s]
        · intro g v h16 h4 hk
          rw [fX13_readPolicy_5]
          simp (disch := omega) only [qbI_s, qbL_s, qbV_s, qbR_s, qbR_n, qbN_s, qbN_n, qbIX_s, qbIX_n, qbVX_s, qbVX_n, cond_true, cond_false, cond_dec, jadd, jsub, jmul, jneg, li_0, li_1, li_2, li_3, li_4, li_5, li_6, li_7, li_8, li_9, li_10, li_14, li_15, li_16, li_19, li_20, li_24, li_30, li_31, li_32, li_39, li_40, li_48, li_57, li_59, li_60, li_63, li_65, li_80, li_81, li_90, li_97, li_99, li_100, li_122, li_126, li_127, li_150, li_160, li_200, li_225, li_255, li_400, li_799, li_800, li_999, li_2400, li_3239, li_3240, li_1048575, li_1431655765, li_858993459, li_252645135, eqb_j, ltb_j, leb_j, inb_j, ix_j, ix_n, nz_b, nz_0, nz_1, eqb_b, bnot, vI_ne, vI_eq, gIL, gLI, gIR, gRI, gLR, gRL, Int.reduceLT, Int.reduceLE, Int.reduceEq, Int.reduceAdd, Int.reduceSub, Int.reduceMul, Int.reduceNeg, Int.reduceToNat, Nat.reduceEqDiff, reduceIte, if_neg, if_pos, gI_ne, gIv 98, h16, hk, hW, gIv 101, h4, h8, decide_true, show bI true = 1 from rfl, wrong_s, show Nat.beq 109 109 = true from rfl]
      · -- a line
        have pos := tok_pos f2 k0
        obtain ⟨ok, N, A, B, Z, S, T, fk, fp, p2, c1, hC, hM⟩ := lineOne d n (tU d n (tF d n p)) u2
        have stepC : ∀ (g q : Nat) (w : qM), 9 ≤ q ∧ q ≤ 40 → qpol q = true → TC w d n → vI w 3 3 = p → ∃ w2, Fr (lsF l q) w w2 ∧ TC w2 d n ∧ (ok = true → liC N A B Z S T q l w2 ∧ vI w2 3 3 = p2 ∧ gI w2 3 4 = gI w 3 4 ∧ gI w2 3 5 = gI w 3 5) ∧ (ok = false → vI w2 3 4 = fk ∧ vI w2 3 5 = fp) ∧ fX5_takeText_7 q (fX5_takeText_46 q) (g + 1) (Zi l) w = if ok = true then fX5_takeText_7 q (fX5_takeText_46 q) g (Zi ((l : Int) + 1)) w2 else some (Zi (-1), w2) := by
          intro g q w hq hpol hT h33
          obtain ⟨w1, e1, hF, hT1, h2, h3, he, hk⟩ := headC w hT h33
          rw [decide_eq_false k0] at he
          obtain ⟨w2, hF2, o2, x2, e2⟩ := hC q l w1 hq hpol (by omega) hT1 h3
          refine ⟨w2, (hF.wide fun c k hc => by unfold lsF; omega).tr (hF2.wide fun c k hc => by unfold lnF at hc; unfold lsF; omega), hT1.mono fun c k hc => hF2.1 c k (by unfold lnF; omega), fun h => ?_, x2, ?_⟩
          · obtain ⟨t1, t2, t3, t4⟩ := o2 h
            exact ⟨t1, t2, by rw [t3, hF.1 3 4 (by omega)], by rw [t4, hF.1 3 5 (by omega)]⟩
          · have e3 := e2 (fX5_takeText_46 q) (fun m => fX5_takeText_7 q (fX5_takeText_46 q) g (Zi ((l : Int) + 1)) m)
            unfold lnK at e3
            rw [fX5_takeText_7]
            simp (disch := omega) only [qbI_s, qbL_s, qbV_s, qbR_s, qbR_n, qbN_s, qbN_n, qbIX_s, qbIX_n, qbVX_s, qbVX_n, cond_true, cond_false, cond_dec, jadd, jsub, jmul, jneg, li_0, li_1, li_2, li_3, li_4, li_5, li_6, li_7, li_8, li_9, li_10, li_14, li_15, li_16, li_19, li_20, li_24, li_30, li_31, li_32, li_39, li_40, li_48, li_57, li_59, li_60, li_63, li_65, li_80, li_81, li_90, li_97, li_99, li_100, li_122, li_126, li_127, li_150, li_160, li_200, li_225, li_255, li_400, li_799, li_800, li_999, li_2400, li_3239, li_3240, li_1048575, li_1431655765, li_858993459, li_252645135, eqb_j, ltb_j, leb_j, inb_j, ix_j, ix_n, nz_b, nz_0, nz_1, eqb_b, bnot, vI_ne, vI_eq, gIL, gLI, gIR, gRI, gLR, gRL, Int.reduceLT, Int.reduceLE, Int.reduceEq, Int.reduceAdd, Int.reduceSub, Int.reduceMul, Int.reduceNeg, Int.reduceToNat, Nat.reduceEqDiff, reduceIte, if_neg, if_pos, gI_ne, e1, he, hk, hW, show bI false = 0 from rfl]
            rw [e3]
            rfl
        have stepM : ∀ (g : Nat) (v : qM), MT v d n p → vI v 101 4 = l → ∃ v2, Fr (lsG l) v v2 ∧ vI v2 101 4 = l ∧ (ok = true → liM N A B Z S T (32 + l) v2 ∧ MT v2 d n p2 ∧ gI v2 98 18 = gI v 98 18 ∧ gI v2 98 19 = gI v 98 19) ∧ (ok = false → vI v2 98 18 = fk ∧ vI v2 98 19 = fp) ∧ fX13_readPolicy_5 (g + 1) v = if ok = true then fX13_readPolicy_5 g (sI v2 101 4 (Zi ((l : Int) + 1))) else some (none, v2) := by
          intro g v hMv h4
          obtain ⟨h16, hk⟩ := headM v hMv
          obtain ⟨xs, v1, es, hM1, hFs⟩ := MT.of (v := sI v 104 (32 + l) (Zi 0)) (d := d) (n := n) (p := tU d n (tF d n p)) (hMv.1.mono fun c k hc => by rw [gI_ne (by omega)]) (by rw [vI_ne (by omega)]; exact hMv.2.2.2.1) u2
          obtain ⟨v2, hF2, o2, x2, e2⟩ := hM (fX13_readPolicy_5 g) (32 + l) v1 (by omega) hM1 (by rw [hFs.v 104 _ (by omega), vI_eq (by omega), if_pos rfl])
          have F1 : Fr (lsG l) v v1 := ((Fr.rf v).wI 104 (32 + l) (Zi 0) (by unfold lsG; omega)).tr (hFs.wide fun c k hc => by unfold lsG; omega)
          have v4 : vI v2 101 4 = l := by rw [hF2.v 101 4 (by unfold lnG; omega), hFs.v 101 4 (by omega), vI_ne (by omega), h4]
          refine ⟨v2, F1.tr (hF2.wide fun c k hc => by unfold lnG at hc; unfold lsG; omega), v4, fun h => ?_, x2, ?_⟩
          · obtain ⟨t1, t2, t3, t4⟩ := o2 h
            exact ⟨t1, t2, by rw [t3, hFs.1 98 18 (by omega), gI_ne (by omega)], by rw [t4, hFs.1 98 19 (by omega), gI_ne (by omega)]⟩
          · have i1 : (32 + (l : Int)).toNat = 32 + l := by omega
            have i2 : Zi (32 + (l : Int)) = Zi ((32 + l : Nat) : Int) := rfl
            rw [gIv 101, v4, show (1 : Int32) = Zi 1 from rfl, jadd] at e2
            rw [fX13_readPolicy_5]
            simp (disch := omega) only [qbI_s, qbL_s, qbV_s, qbR_s, qbR_n, qbN_s, qbN_n, qbIX_s, qbIX_n, qbVX_s, qbVX_n, cond_true, cond_false, cond_dec, jadd, jsub, jmul, jneg, li_0, li_1, li_2, li_3, li_4, li_5, li_6, li_7, li_8, li_9, li_10, li_14, li_15, li_16, li_19, li_20, li_24, li_30, li_31, li_32, li_39, li_40, li_48, li_57, li_59, li_60, li_63, li_65, li_80, li_81, li_90, li_97, li_99, li_100, li_122, li_126, li_127, li_150, li_160, li_200, li_225, li_255, li_400, li_799, li_800, li_999, li_2400, li_3239, li_3240, li_1048575, li_1431655765, li_858993459, li_252645135, eqb_j, ltb_j, leb_j, inb_j, ix_j, ix_n, nz_b, nz_0, nz_1, eqb_b, bnot, vI_ne, vI_eq, gIL, gLI, gIR, gRI, gLR, gRL, Int.reduceLT, Int.reduceLE, Int.reduceEq, Int.reduceAdd, Int.reduceSub, Int.reduceMul, Int.reduceNeg, Int.reduceToNat, Nat.reduceEqDiff, reduceIte, if_neg, if_pos, gI_ne, gIv 98, h16, hk, hW, gIv 101, h4, decide_true, show bI true = 1 from rfl, i1, es]
            rw [i2]
            exact e2
        cases ok
        · refine ⟨false, -1, fk, fp, fun _ => 0, fun _ _ => 0, fun _ _ => 0, fun _ _ => 0, fun _ => 0, fun _ => 0, fun h => (by cases h), fun _ => rfl, ?_, ?_⟩
          · intro g q w hg hq hpol hT h33
            obtain ⟨g, rfl⟩ : ∃ g', g = g' + 1 := ⟨g - 1, by omega⟩
            obtain ⟨w2, hF, hT2, o2, x2, e2⟩ := stepC g q w hq hpol hT h33
            rw [if_neg (by decide)] at e2
            exact wp_e e2 ⟨rfl, hF, fun h => (by cases h), x2⟩
          · intro g v hg hMv h4
            obtain ⟨g, rfl⟩ : ∃ g', g = g' + 1 := ⟨g - 1, by omega⟩
            obtain ⟨v2, hF, h42, o2, x2, e2⟩ := stepM g v hMv h4
            rw [if_neg (by decide)] at e2
            exact wp_e e2 ⟨rfl, hF, fun h => (by cases h), x2⟩
        · obtain ⟨c2, c3, c4⟩ := c1 rfl
          obtain ⟨ok, x, fk9, fp9, N9, A9, B9, Z9, S9, T9, d1, d2, hC9, hM9⟩ := ih (n - p2) (by omega) p2 (l + 1) rfl c4 (by omega)
          refine ⟨ok, x, fk9, fp9, fun i => if i = l then N else N9 i, fun i => if i = l then A else A9 i, fun i => if i = l then B else B9 i, fun i => if i = l then Z else Z9 i, fun i => if i = l then S else S9 i, fun i => if i = l then T else T9 i, fun h => ?_, d2, ?_, ?_⟩
          · obtain ⟨q1, q2, q3⟩ := d1 h
            refine ⟨by omega, q2, fun i h1 h2 => ?_⟩
            by_cases e : i = l
            · simp only [if_pos e]
              exact c2
            · simp only [if_neg e]
              exact q3 i (by omega) h2
          · intro g q w hg hq hpol hT h33
            obtain ⟨g, rfl⟩ : ∃ g', g = g' + 1 := ⟨g - 1, by omega⟩
            obtain ⟨w2, hF, hT2, o2, x2, e2⟩ := stepC g q w hq hpol hT h33
            obtain ⟨t1, t2, t3, t4⟩ := o2 rfl
            rw [if_pos rfl] at e2
            obtain ⟨y, w9, e9, hy, hF9, o9, x9⟩ := hC9 g q w2 (by omega) hq hpol hT2 t2
            refine ⟨y, w9, by rw [e2]; exact e9, hy, hF.tr (hF9.wide fun c k hc => by unfold lsF at hc ⊢; omega), fun h => ?_, x9⟩
            obtain ⟨q1, q2, q3, q4⟩ := o9 h
            refine ⟨q1, fun i h1 h2 => ?_, by rw [q3, t3], by rw [q4, t4]⟩
            by_cases e : i = l
            · simp only [if_pos e]
              obtain ⟨r1, r2, r3, r4⟩ := t1
              rw [e]
              refine ⟨by rw [hF9.v (q + 1) l (by unfold lsF; omega), r1], by rw [hF9.v (q + 5) l (by unfold lsF; omega), r2], by rw [hF9.v (q + 6) l (by unfold lsF; omega), r3], fun j hj => ?_⟩
              have hN4 := c2.1.2
              rw [hF9.v (q + 2) _ (by unfold lsF; omega), hF9.v (q + 3) _ (by unfold lsF; omega), hF9.v (q + 4) _ (by unfold lsF; omega)]
              exact r4 j hj
            · simp only [if_neg e]
              exact q2 i (by omega) h2
          · intro g v hg hMv h4
            obtain ⟨g, rfl⟩ : ∃ g', g = g' + 1 := ⟨g - 1, by omega⟩
            obtain ⟨v2, hF, h42, o2, x2, e2⟩ := stepM g v hMv h4
            obtain ⟨t1, t2, t3, t4⟩ := o2 rfl
            rw [if_pos rfl] at e2
            obtain ⟨y, v9, e9, hy, hF9, o9, x9⟩ := hM9 g (sI v2 101 4 (Zi ((l : Int) + 1))) (by omega) (t2.mono fun c k hc => by rw [gI_ne (by omega)]) (by rw [vI_eq (by omega), if_pos rfl]; omega)
            refine ⟨y, v9, by rw [e2]; exact e9, hy, (hF.wI 101 4 _ (by unfold lsG; omega)).tr (hF9.wide fun c k hc => by unfold lsG at hc ⊢; omega), fun h => ?_, x9⟩
            obtain ⟨q1, q2, q3, q4⟩ := o9 h
            refine ⟨q1, fun i h1 h2 => ?_, by rw [q3, gI_ne (by omega), t3], by rw [q4, gI_ne (by omega), t4]⟩
            by_cases e : i = l
            · simp only [if_pos e]
              obtain ⟨r1, r2, r3, r4⟩ := t1
              rw [e]
              refine ⟨by rw [hF9.v 104 _ (by unfold lsG; omega), vI_ne (by omega), r1], by rw [hF9.v 102 _ (by unfold lsG; omega), vI_ne (by omega), r2], by rw [hF9.v 103 _ (by unfold lsG; omega), vI_ne (by omega), r3], fun j hj => ?_⟩
              have hN4 := c2.1.2
              rw [hF9.v 105 _ (by unfold lsG; omega), hF9.v 106 _ (by unfold lsG; omega), hF9.v 107 _ (by unfold lsG; omega), vI_ne (by omega), vI_ne (by omega), vI_ne (by omega)]
              exact r4 j hj
            · simp only [if_neg e]
              exact q2 i (by omega) h2
    · have hW1 : woV 1 d (tF d n p) (tU d n (tF d n p)) (tK d n (tF d n p)) = -1 := by
        rw [woV_1] at hW ⊢
        split
        · rename_i g
          rw [if_pos g] at hW
          split
          · rename_i g'; rw [if_pos g'] at hW; exact absurd rfl hW
          · rfl
        · rfl
      refine fault 1 (by omega) ?_ ?_
      · intro g q w w1 e1 he hk
        rw [fX5_takeText_7]
        simp (disch := omega) only [qbI_s, qbL_s, qbV_s, qbR_s, qbR_n, qbN_s, qbN_n, qbIX_s, qbIX_n, qbVX_s, qbVX_n, cond_true, cond_false, cond_dec, jadd, jsub, jmul, jneg, li_0, li_1, li_2, li_3, li_4, li_5, li_6, li_7, li_8, li_9, li_10, li_14, li_15, li_16, li_19, li_20, li_24, li_30, li_31, li_32, li_39, li_40, li_48, li_57, li_59, li_60, li_63, li_65, li_80, li_81, li_90, li_97, li_99, li_100, li_122, li_126, li_127, li_150, li_160, li_200, li_225, li_255, li_400, li_799, li_800, li_999, li_2400, li_3239, li_3240, li_1048575, li_1431655765, li_858993459, li_252645135, eqb_j, ltb_j, leb_j, inb_j, ix_j, ix_n, nz_b, nz_0, nz_1, eqb_b, bnot, vI_ne, vI_eq, gIL, gLI, gIR, gRI, gLR, gRL, Int.reduceLT, Int.reduceLE, Int.reduceEq, Int.reduceAdd, Int.reduceSub, Int.reduceMul, Int.reduceNeg, Int.reduceToNat, Nat.reduceEqDiff, reduceIte, if_neg, if_pos, gI_ne, e1, he, hk, hW1, fail_s, show (-1 : Int32) = Zi (-1) from rfl]
      · intro g v h16 h4 hk
        rw [fX13_readPolicy_5]
        simp (disch := omega) only [qbI_s, qbL_s, qbV_s, qbR_s, qbR_n, qbN_s, qbN_n, qbIX_s, qbIX_n, qbVX_s, qbVX_n, cond_true, cond_false, cond_dec, jadd, jsub, jmul, jneg, li_0, li_1, li_2, li_3, li_4, li_5, li_6, li_7, li_8, li_9, li_10, li_14, li_15, li_16, li_19, li_20, li_24, li_30, li_31, li_32, li_39, li_40, li_48, li_57, li_59, li_60, li_63, li_65, li_80, li_81, li_90, li_97, li_99, li_100, li_122, li_126, li_127, li_150, li_160, li_200, li_225, li_255, li_400, li_799, li_800, li_999, li_2400, li_3239, li_3240, li_1048575, li_1431655765, li_858993459, li_252645135, eqb_j, ltb_j, leb_j, inb_j, ix_j, ix_n, nz_b, nz_0, nz_1, eqb_b, bnot, vI_ne, vI_eq, gIL, gLI, gIR, gRI, gLR, gRL, Int.reduceLT, Int.reduceLE, Int.reduceEq, Int.reduceAdd, Int.reduceSub, Int.reduceMul, Int.reduceNeg, Int.reduceToNat, Nat.reduceEqDiff, reduceIte, if_neg, if_pos, gI_ne, gIv 98, h16, hk, hW1, Int.reduceNeg, decide_false, show bI false = 0 from rfl, wrong_s, show Nat.beq 109 109 = true from rfl]
