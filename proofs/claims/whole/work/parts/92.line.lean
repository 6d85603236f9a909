/-! one line of a policy behind its 'when': both machines come to one outcome -/
theorem tkW5_r (d : Nat → Int) (n p : Nat) : -1 ≤ tkW 5 d n p ∧ tkW 5 d n p ≤ 5 := ⟨(woV_r 5 (by decide) d _ _ _).1, woV5_r d _ _ _⟩
def lnF (l q : Nat) : Nat → Nat → Prop := fun x k => x = 3 ∧ 1 ≤ k ∧ k ≤ 5 ∨ (x = q + 1 ∨ x = q + 5 ∨ x = q + 6) ∧ k = l ∨ (x = q + 2 ∨ x = q + 3 ∨ x = q + 4) ∧ 4 * l ≤ k ∧ k < 4 * l + 4
def lnG (a : Nat) : Nat → Nat → Prop := fun x k => x = 98 ∧ 14 ≤ k ∧ k ≤ 19 ∨ (x = 102 ∨ x = 103 ∨ x = 104) ∧ k = a ∨ (x = 105 ∨ x = 106 ∨ x = 107) ∧ 4 * a ≤ k ∧ k < 4 * a + 4
def liC (N : Nat) (A B Z : Nat → Int) (S T : Int) (q l : Nat) (w : qM) : Prop := vI w (q + 1) l = N ∧ vI w (q + 5) l = S ∧ vI w (q + 6) l = T ∧ ∀ j, j < N → vI w (q + 2) (4 * l + j) = A j ∧ vI w (q + 3) (4 * l + j) = B j ∧ vI w (q + 4) (4 * l + j) = Z j
def liM (N : Nat) (A B Z : Nat → Int) (S T : Int) (a : Nat) (v : qM) : Prop := vI v 104 a = N ∧ vI v 102 a = S ∧ vI v 103 a = T ∧ ∀ j, j < N → vI v 105 (4 * a + j) = A j ∧ vI v 106 (4 * a + j) = cmpV (B j) ∧ vI v 107 (4 * a + j) = Z j
def liR (N : Nat) (A B Z : Nat → Int) (S T : Int) : Prop := (1 ≤ N ∧ N ≤ 4) ∧ (0 ≤ S ∧ S ≤ 5) ∧ (0 ≤ T ∧ T ≤ 30) ∧ (S = 4 ∨ S = 5 → 1 ≤ T) ∧ cnR 0 N A B Z
theorem acF_none {d : Nat → Int} {n p : Nat} (h : acF d n p = none) : (0 ≤ tkW 5 d n p ∧ tkW 5 d n p ≤ 5) ∧ (0 ≤ acV d n p ∧ acV d n p ≤ 30) ∧ (tkW 5 d n p = 4 ∨ tkW 5 d n p = 5 → 1 ≤ acV d n p) ∧ tK d n (tF d n (acQ d n p)) = 3 := by
  have h1 := tkW5_r d n p
  unfold acF at h
  split at h
  · cases h
  · rename_i g1
    split at h
    · cases h
    · rename_i g2
      split at h
      · cases h
      · rename_i g3
        split at h
        · rename_i g4
          have g6 : tkW 5 d n p = 4 ∨ tkW 5 d n p = 5 → 1 ≤ tkV d n (tkN d n p) ∧ tkV d n (tkN d n p) ≤ 30 := fun g5 => Classical.byContradiction fun z => g3 ⟨g5, z⟩
          refine ⟨⟨by omega, h1.2⟩, ?_, ?_, g4⟩
          · unfold acV
            split
            · rename_i g5
              have := g6 g5
              omega
            · omega
          · intro g5
            unfold acV
            rw [if_pos g5]
            exact (g6 g5).1
        · cases h
theorem acQ_r (d : Nat → Int) (n p : Nat) (h : p ≤ n) : p ≤ acQ d n p ∧ acQ d n p ≤ n := by
  have b1 := tkN_r d n p h
  have b2 := tkN_r d n (tkN d n p) b1.2
  unfold acQ
  split <;> omega
noncomputable def lnK (q l : Nat) (kz kk : qM → Option (Int32 × qM)) (w : qM) : Option (Int32 × qM) := qbI (bif qpol q then fX5_takeConditions q (Zi l) w else none) (fun x8 m9 => bif eqb x8 (Zi 0) then kz m9 else qbI (bif qpol q then fX5_takeAct q (Zi l) m9 else none) (fun x10 m11 => bif eqb x10 (Zi 0) then kz m11 else kk m11))
theorem lineOne (d : Nat → Int) (n p : Nat) (hp : p ≤ n) : ∃ (ok : Bool) (N : Nat) (A B Z : Nat → Int) (S T fk : Int) (fp p2 : Nat), (ok = true → liR N A B Z S T ∧ p ≤ p2 ∧ p2 ≤ n) ∧
    (∀ (q l : Nat) (w : qM), 9 ≤ q ∧ q ≤ 40 → qpol q = true → l < 8 → TC w d n → vI w 3 3 = p → ∃ w', Fr (lnF l q) w w' ∧ (ok = true → liC N A B Z S T q l w' ∧ vI w' 3 3 = p2 ∧ gI w' 3 4 = gI w 3 4 ∧ gI w' 3 5 = gI w 3 5) ∧ (ok = false → vI w' 3 4 = fk ∧ vI w' 3 5 = fp) ∧ ∀ kz kk, lnK q l kz kk w = if ok = true then kk w' else kz w') ∧
    (∀ (k5 : qM → Option (Option Int32 × qM)) (a : Nat) (v : qM), 32 ≤ a ∧ a < 40 → MT v d n p → vI v 104 a = 0 → ∃ v', Fr (lnG a) v v' ∧ (ok = true → liM N A B Z S T a v' ∧ MT v' d n p2 ∧ gI v' 98 18 = gI v 98 18 ∧ gI v' 98 19 = gI v 98 19) ∧ (ok = false → vI v' 98 18 = fk ∧ vI v' 98 19 = fp) ∧ qbVX (fX13_readCond (Zi a) v) (fun m => fX13_readPolicy_43 k5 FU (Zi a) m) (fun m => some (none, m)) = if ok = true then k5 (sI v' 101 4 (gI v' 101 4 + 1)) else some (none, v')) := by
  obtain ⟨ok, N, A, B, Z, fk, fp, p2, c1, hC, hM⟩ := condsLoop d n 3 0 p rfl hp
  have hC' : ∀ (q l : Nat) (w : qM), 9 ≤ q ∧ q ≤ 40 → qpol q = true → l < 8 → TC w d n → vI w 3 3 = p → wp (fX5_takeConditions q (Zi l) w) (cnC ok N A B Z fk fp p2 0 q l w) := fun q l w hq hpol hl hT h33 => by
    have := hC FU q l w (by rw [FU_d]; omega) hq hpol hl hT h33
    rw [fX5_takeConditions_d]
    exact this
  have hM' := fun (k5 : qM → Option (Option Int32 × qM)) (a : Nat) (v : qM) (ha : 32 ≤ a ∧ a < 40) (hMv : MT v d n p) (h104 : vI v 104 a = 0) => hM k5 FU a v (by rw [FU_d]; omega) ha hMv h104
  clear hC hM
  cases ok
  · refine ⟨false, 0, A, B, Z, 0, 0, fk, fp, 0, fun h => (by cases h), fun q l w hq hpol hl hT h33 => ?_, fun k5 a v ha hMv h104 => ?_⟩
    · obtain ⟨y, w1, e1, hy, hF, o1, x1⟩ := hC' q l w hq hpol hl hT h33
      subst hy
      refine ⟨w1, hF.wide fun x k h => by unfold lnF; omega, fun h => (by cases h), fun _ => x1 rfl, fun kz kk => ?_⟩
      rw [if_neg (by decide)]
      unfold lnK
      simp (disch := omega) only [hpol, qbI_s, qbL_s, qbV_s, qbR_s, qbR_n, qbN_s, qbN_n, qbIX_s, qbIX_n, qbVX_s, qbVX_n, cond_true, cond_false, cond_dec, jadd, jsub, jmul, jneg, li_0, li_1, li_2, li_3, li_4, li_5, li_6, li_7, li_8, li_9, li_10, li_14, li_15, li_16, li_19, li_20, li_24, li_30, li_31, li_32, li_39, li_40, li_48, li_57, li_59, li_60, li_63, li_65, li_80, li_81, li_90, li_97, li_99, li_100, li_122, li_126, li_127, li_150, li_160, li_200, li_225, li_255, li_400, li_799, li_800, li_999, li_2400, li_3239, li_3240, li_1048575, li_1431655765, li_858993459, li_252645135, eqb_j, ltb_j, leb_j, inb_j, ix_j, ix_n, nz_b, nz_0, nz_1, eqb_b, bnot, vI_ne, vI_eq, gIL, gLI, gIR, gRI, gLR, gRL, Int.reduceLT, Int.reduceLE, Int.reduceEq, Int.reduceAdd, Int.reduceSub, Int.reduceMul, Int.reduceNeg, Int.reduceToNat, Nat.reduceEqDiff, reduceIte, if_neg, if_pos, gI_ne, e1, show bI false = 0 from rfl]
    · obtain ⟨v1, o1, x1, e1⟩ := hM' k5 a v ha hMv h104
      obtain ⟨t1, t2, t3⟩ := x1 rfl
      exact ⟨v1, t1.wide fun x k h => by unfold lnG; omega, fun h => (by cases h), fun _ => ⟨t2, t3⟩, e1⟩
  · obtain ⟨k1, k2, k3, k4, k5⟩ := c1 rfl
    have b1 := acQ_r d n p2 k4
    have b2 := tkN_r d n (acQ d n p2) b1.2
    have q5 := tkW5_r d n p2
    -- up to the act
    have upC : ∀ (q l : Nat) (w : qM), 9 ≤ q ∧ q ≤ 40 → qpol q = true → l < 8 → TC w d n → vI w 3 3 = p → ∃ w1 y w2, Fr (lnF l q) w w1 ∧ vI w1 (q + 1) l = N ∧ (∀ j, j < N → vI w1 (q + 2) (4 * l + j) = A j ∧ vI w1 (q + 3) (4 * l + j) = B j ∧ vI w1 (q + 4) (4 * l + j) = Z j) ∧ gI w1 3 4 = gI w 3 4 ∧ gI w1 3 5 = gI w 3 5 ∧ fX5_takeAct q (Zi l) w1 = some (y, w2) ∧ Fr (fun c k => c = 3 ∧ 1 ≤ k ∧ k ≤ 5 ∨ (c = q + 5 ∨ c = q + 6) ∧ k = l) w1 w2 ∧ ((acF d n p2 = none ∧ y = Zi 1 ∧ vI w2 (q + 5) l = tkW 5 d n p2 ∧ vI w2 (q + 6) l = acV d n p2 ∧ vI w2 3 3 = tkN d n (acQ d n p2) ∧ gI w2 3 4 = gI w1 3 4 ∧ gI w2 3 5 = gI w1 3 5) ∨ (∃ (fk : Int) (fp : Nat), acF d n p2 = some (fk, fp) ∧ y = Zi 0 ∧ vI w2 3 4 = fk ∧ vI w2 3 5 = fp)) ∧ ∀ kz kk, lnK q l kz kk w = bif eqb y (Zi 0) then kz w2 else kk w2 := by
      intro q l w hq hpol hl hT h33
      obtain ⟨y, w1, e1, hy, hF, o1, x1⟩ := hC' q l w hq hpol hl hT h33
      subst hy
      obtain ⟨t1, t2, t3, t4, t5⟩ := o1 rfl
      obtain ⟨y2, w2, e2, hF2, hd⟩ := takeAct_s w1 d n p2 (hT.mono fun x k h => hF.1 x k (by omega)) t3 k4 q l hq hl
      refine ⟨w1, y2, w2, hF.wide fun x k h => by unfold lnF; omega, t1, fun j hj => t2 j (Nat.zero_le _) hj, t4, t5, e2, hF2, hd, fun kz kk => ?_⟩
      unfold lnK
      simp (disch := omega) only [hpol, qbI_s, qbL_s, qbV_s, qbR_s, qbR_n, qbN_s, qbN_n, qbIX_s, qbIX_n, qbVX_s, qbVX_n, cond_true, cond_false, cond_dec, jadd, jsub, jmul, jneg, li_0, li_1, li_2, li_3, li_4, li_5, li_6, li_7, li_8, li_9, li_10, li_14, li_15, li_16, li_19, li_20, li_24, li_30, li_31, li_32, li_39, li_40, li_48, li_57, li_59, li_60, li_63, li_65, li_80, li_81, li_90, li_97, li_99, li_100, li_122, li_126, li_127, li_150, li_160, li_200, li_225, li_255, li_400, li_799, li_800, li_999, li_2400, li_3239, li_3240, li_1048575, li_1431655765, li_858993459, li_252645135, eqb_j, ltb_j, leb_j, inb_j, ix_j, ix_n, nz_b, nz_0, nz_1, eqb_b, bnot, vI_ne, vI_eq, gIL, gLI, gIR, gRI, gLR, gRL, Int.reduceLT, Int.reduceLE, Int.reduceEq, Int.reduceAdd, Int.reduceSub, Int.reduceMul, Int.reduceNeg, Int.reduceToNat, Nat.reduceEqDiff, reduceIte, if_neg, if_pos, gI_ne, e1, show bI true = 1 from rfl, e2]
    have upM : ∀ (k5 : qM → Option (Option Int32 × qM)) (a : Nat) (v : qM), 32 ≤ a ∧ a < 40 → MT v d n p → vI v 104 a = 0 → ∃ v1 y v2, Fr (lnG a) v v1 ∧ vI v1 104 a = N ∧ (∀ j, j < N → vI v1 105 (4 * a + j) = A j ∧ vI v1 106 (4 * a + j) = cmpV (B j) ∧ vI v1 107 (4 * a + j) = Z j) ∧ gI v1 98 18 = gI v 98 18 ∧ gI v1 98 19 = gI v 98 19 ∧ fX13_readAct (Zi a) v1 = some (y, v2) ∧ Fr (fun c k => c = 98 ∧ 14 ≤ k ∧ k ≤ 19 ∨ (c = 102 ∨ c = 103) ∧ k = a) v1 v2 ∧ ((acF d n p2 = (if tK d n (tF d n (acQ d n p2)) = 3 then none else some (1, tF d n (acQ d n p2))) ∧ y = some () ∧ vI v2 102 a = tkW 5 d n p2 ∧ vI v2 103 a = acV d n p2 ∧ MT v2 d n (acQ d n p2) ∧ gI v2 98 18 = gI v1 98 18 ∧ gI v2 98 19 = gI v1 98 19) ∨ (∃ (fk : Int) (fp : Nat), acF d n p2 = some (fk, fp) ∧ y = none ∧ vI v2 98 18 = fk ∧ vI v2 98 19 = fp)) ∧ qbVX (fX13_readCond (Zi a) v) (fun m => fX13_readPolicy_43 k5 FU (Zi a) m) (fun m => some (none, m)) = qbVX (some (y, v2)) (fun m17 => qbVX (fX13_close m17) (fun m19 => k5 (sI m19 101 4 (gI m19 101 4 + 1))) (fun m20 => some (none, m20))) (fun m18 => some (none, m18)) := by
      intro k5 a v ha hMv h104
      obtain ⟨v1, o1, x1, e1⟩ := hM' k5 a v ha hMv h104
      obtain ⟨t1, t2, t3, t4, t5, t6⟩ := o1 rfl
      obtain ⟨y, v2, e2, hF2, hd⟩ := readAct_s v1 d n p2 t1 a ha
      refine ⟨v1, y, v2, t2.wide fun x k h => by unfold lnG; omega, t3, fun j hj => t4 j (Nat.zero_le _) hj, t5, t6, e2, hF2, ?_, ?_⟩
      · rcases hd with ⟨h1, h2, h3, h4, h5, h6, h7, h8, h9, h10⟩ | h
        · exact Or.inl ⟨h1, h2, h6, h7, h8, h9, h10⟩
        · exact Or.inr h
      · rw [e1, if_pos rfl, ← e2]
        rfl
    cases hA : acF d n p2 with
    | none =>
      obtain ⟨a1, a2, a3, a4⟩ := acF_none hA
      refine ⟨true, N, A, B, Z, tkW 5 d n p2, acV d n p2, 0, 0, tkN d n (acQ d n p2), fun _ => ⟨⟨⟨by omega, k2⟩, a1, a2, a3, k5⟩, by omega, b2.2⟩, fun q l w hq hpol hl hT h33 => ?_, fun k5 a v ha hMv h104 => ?_⟩
      · obtain ⟨w1, y, w2, hF, t1, t2, t4, t5, e2, hF2, hd, e⟩ := upC q l w hq hpol hl hT h33
        rcases hd with ⟨-, rfl, h5, h6, h7, h8, h9⟩ | ⟨fk, fp, h, -⟩
        · refine ⟨w2, hF.tr (hF2.wide fun x k h => by unfold lnF; omega), fun _ => ⟨⟨by rw [hF2.v (q + 1) l (by omega), t1], h5, h6, fun j hj => ?_⟩, h7, by rw [h8, t4], by rw [h9, t5]⟩, fun h => (by cases h), fun kz kk => ?_⟩
          · rw [hF2.v (q + 2) _ (by omega), hF2.v (q + 3) _ (by omega), hF2.v (q + 4) _ (by omega)]
            exact t2 j hj
          · rw [e, if_pos rfl]
            simp (disch := omega) only [qbI_s, qbL_s, qbV_s, qbR_s, qbR_n, qbN_s, qbN_n, qbIX_s, qbIX_n, qbVX_s, qbVX_n, cond_true, cond_false, cond_dec, jadd, jsub, jmul, jneg, li_0, li_1, li_2, li_3, li_4, li_5, li_6, li_7, li_8, li_9, li_10, li_14, li_15, li_16, li_19, li_20, li_24, li_30, li_31, li_32, li_39, li_40, li_48, li_57, li_59, li_60, li_63, li_65, li_80, li_81, li_90, li_97, li_99, li_100, li_122, li_126, li_127, li_150, li_160, li_200, li_225, li_255, li_400, li_799, li_800, li_999, li_2400, li_3239, li_3240, li_1048575, li_1431655765, li_858993459, li_252645135, eqb_j, ltb_j, leb_j, inb_j, ix_j, ix_n, nz_b, nz_0, nz_1, eqb_b, bnot, vI_ne, vI_eq, gIL, gLI, gIR, gRI, gLR, gRL, Int.reduceLT, Int.reduceLE, Int.reduceEq, Int.reduceAdd, Int.reduceSub, Int.reduceMul, Int.reduceNeg, Int.reduceToNat, Nat.reduceEqDiff, reduceIte, if_neg, if_pos, gI_ne]
        · rw [hA] at h; cases h
      · obtain ⟨v1, y, v2, hF, t1, t2, t4, t5, e2, hF2, hd, e⟩ := upM k5 a v ha hMv h104
        rcases hd with ⟨-, rfl, h5, h6, h7, h8, h9⟩ | ⟨fk, fp, h, -⟩
        · obtain ⟨y3, v3, e3, hF3, hd3⟩ := close_s v2 d n (acQ d n p2) h7
          rcases hd3 with ⟨-, rfl, g1, g2, g3⟩ | ⟨g1, -⟩
          · refine ⟨v3, (hF.tr (hF2.wide fun x k h => by unfold lnG; omega)).tr (hF3.wide fun x k h => by unfold lnG; omega), fun _ => ⟨⟨by rw [hF3.v 104 a (by omega), hF2.v 104 a (by omega), t1], by rw [hF3.v 102 a (by omega), h5], by rw [hF3.v 103 a (by omega), h6], fun j hj => ?_⟩, g1, by rw [g2, h8, t4], by rw [g3, h9, t5]⟩, fun h => (by cases h), ?_⟩
            · rw [hF3.v 105 _ (by omega), hF3.v 106 _ (by omega), hF3.v 107 _ (by omega), hF2.v 105 _ (by omega), hF2.v 106 _ (by omega), hF2.v 107 _ (by omega)]
              exact t2 j hj
            · rw [e, qbVX_s, e3, qbVX_s, if_pos rfl]
          · exact absurd a4 g1
        · rw [hA] at h; cases h
    | some z =>
      obtain ⟨fk, fp⟩ := z
      refine ⟨false, 0, A, B, Z, 0, 0, fk, fp, 0, fun h => (by cases h), fun q l w hq hpol hl hT h33 => ?_, fun k5 a v ha hMv h104 => ?_⟩
      · obtain ⟨w1, y, w2, hF, t1, t2, t4, t5, e2, hF2, hd, e⟩ := upC q l w hq hpol hl hT h33
        rcases hd with ⟨h, -⟩ | ⟨fk', fp', h, rfl, h4, h5⟩
        · rw [hA] at h; cases h
        · rw [hA] at h
          cases h
          refine ⟨w2, hF.tr (hF2.wide fun x k h => by unfold lnF; omega), fun h => (by cases h), fun _ => ⟨h4, h5⟩, fun kz kk => ?_⟩
          rw [e, if_neg (by decide)]
          simp (disch := omega) only [qbI_s, qbL_s, qbV_s, qbR_s, qbR_n, qbN_s, qbN_n, qbIX_s, qbIX_n, qbVX_s, qbVX_n, cond_true, cond_false, cond_dec, jadd, jsub, jmul, jneg, li_0, li_1, li_2, li_3, li_4, li_5, li_6, li_7, li_8, li_9, li_10, li_14, li_15, li_16, li_19, li_20, li_24, li_30, li_31, li_32, li_39, li_40, li_48, li_57, li_59, li_60, li_63, li_65, li_80, li_81, li_90, li_97, li_99, li_100, li_122, li_126, li_127, li_150, li_160, li_200, li_225, li_255, li_400, li_799, li_800, li_999, li_2400, li_3239, li_3240, li_1048575, li_1431655765, li_858993459, li_252645135, eqb_j, ltb_j, leb_j, inb_j, ix_j, ix_n, nz_b, nz_0, nz_1, eqb_b, bnot, vI_ne, vI_eq, gIL, gLI, gIR, gRI, gLR, gRL, Int.reduceLT, Int.reduceLE, Int.reduceEq, Int.reduceAdd, Int.reduceSub, Int.reduceMul, Int.reduceNeg, Int.reduceToNat, Nat.reduceEqDiff, reduceIte, if_neg, if_pos, gI_ne]
      · obtain ⟨v1, y, v2, hF, t1, t2, t4, t5, e2, hF2, hd, e⟩ := upM k5 a v ha hMv h104
        rcases hd with ⟨h, rfl, h5, h6, h7, h8, h9⟩ | ⟨fk', fp', h, rfl, h4, h5⟩
        · rw [hA] at h
          obtain ⟨y3, v3, e3, hF3, hd3⟩ := close_s v2 d n (acQ d n p2) h7
          rcases hd3 with ⟨g1, -⟩ | ⟨g1, rfl, g2, g3⟩
          · rw [if_pos g1] at h; cases h
          · rw [if_neg g1] at h
            cases h
            refine ⟨v3, (hF.tr (hF2.wide fun x k h => by unfold lnG; omega)).tr (hF3.wide fun x k h => by unfold lnG; omega), fun h => (by cases h), fun _ => ⟨g2, g3⟩, ?_⟩
            rw [e, qbVX_s, e3, qbVX_n, if_neg (by decide)]
        · rw [hA] at h
          cases h
          refine ⟨v2, hF.tr (hF2.wide fun x k h => by unfold lnG; omega), fun h => (by cases h), fun _ => ⟨h4, h5⟩, ?_⟩
          rw [e, qbVX_n, if_neg (by decide)]
