/-! one line's conditions, both machines -/
def cnC (ok : Bool) (N : Nat) (A B Z : Nat → Int) (fk : Int) (fp p2 c q l : Nat) (w : qM) (y : Int32) (w' : qM) : Prop := y = Zi (bI ok) ∧ Fr (fun x k => x = 3 ∧ 1 ≤ k ∧ k ≤ 5 ∨ x = q + 1 ∧ k = l ∨ (x = q + 2 ∨ x = q + 3 ∨ x = q + 4) ∧ 4 * l + c ≤ k ∧ k < 4 * l + 4) w w' ∧ (ok = true → vI w' (q + 1) l = N ∧ (∀ j, c ≤ j → j < N → vI w' (q + 2) (4 * l + j) = A j ∧ vI w' (q + 3) (4 * l + j) = B j ∧ vI w' (q + 4) (4 * l + j) = Z j) ∧ vI w' 3 3 = p2 ∧ gI w' 3 4 = gI w 3 4 ∧ gI w' 3 5 = gI w 3 5) ∧ (ok = false → vI w' 3 4 = fk ∧ vI w' 3 5 = fp)
def cnM (N : Nat) (A B Z : Nat → Int) (c a : Nat) (v v' : qM) : Prop := Fr (fun x k => x = 98 ∧ 14 ≤ k ∧ k ≤ 19 ∨ x = 104 ∧ k = a ∨ (x = 105 ∨ x = 106 ∨ x = 107) ∧ 4 * a + c ≤ k ∧ k < 4 * a + 4) v v' ∧ vI v' 104 a = N ∧ (∀ j, c ≤ j → j < N → vI v' 105 (4 * a + j) = A j ∧ vI v' 106 (4 * a + j) = cmpV (B j) ∧ vI v' 107 (4 * a + j) = Z j) ∧ gI v' 98 18 = gI v 98 18 ∧ gI v' 98 19 = gI v 98 19
def cnX (fk : Int) (fp c a : Nat) (v v' : qM) : Prop := Fr (fun x k => x = 98 ∧ 14 ≤ k ∧ k ≤ 19 ∨ x = 104 ∧ k = a ∨ (x = 105 ∨ x = 106 ∨ x = 107) ∧ 4 * a + c ≤ k ∧ k < 4 * a + 4) v v' ∧ vI v' 98 18 = fk ∧ vI v' 98 19 = fp
theorem cdFp_le (d : Nat → Int) (n p : Nat) (hp : p ≤ n) : cdFp d n p ≤ n := by
  have b1 := tkN_r d n p hp
  have b2 := tkN_r d n (tkN d n p) b1.2
  unfold cdFp
  split
  · exact (tF_r d n p hp).2
  · split
    · exact (tF_r d n _ b1.2).2
    · exact (tF_r d n _ b2.2).2
theorem condsBad (d : Nat → Int) (n c p : Nat) (hc : c < 4) (hp : p ≤ n) (hbad : ¬ cdOk d n p) : (∀ (g q l : Nat) (w : qM), 0 < g → 9 ≤ q ∧ q ≤ 40 → qpol q = true → l < 8 → TC w d n → vI w 3 3 = p → wp (fX5_takeConditions_2 q (fX5_takeConditions_35 q) g (Zi l) (Zi c) w) (cnC false 0 (fun _ => 0) (fun _ => 0) (fun _ => 0) 1 (cdFp d n p) 0 c q l w)) ∧ (∀ (a : Nat) (v : qM), 32 ≤ a ∧ a < 40 → MT v d n p → vI v 104 a = c → ∃ v', fX13_readCond (Zi a) v = some (none, v') ∧ cnX 1 (cdFp d n p) c a v v') := by
  refine ⟨fun g q l w hg hq hpol hl hT h33 => ?_, fun a v ha hM h104 => ?_⟩
  · obtain ⟨g, rfl⟩ : ∃ g', g = g' + 1 := ⟨g - 1, by omega⟩
    obtain ⟨y, w1, e1, hF, hd⟩ := takeCond_s w d n p hT h33 hp q (4 * l + c) hq (by omega)
    rcases hd with h | ⟨-, rfl, h4, h5⟩
    · exact absurd h.1 hbad
    · refine wp_e (x := Zi 0) (m := w1) ?_ ⟨rfl, hF.wide fun x k h => by omega, fun h => (by cases h), fun _ => ⟨h4, h5⟩⟩
      rw [fX5_takeConditions_2]
      have e1' : fX5_takeCondition q (Zi ((l : Int) * 4 + c)) w = some (Zi 0, w1) := by
        rw [← e1]
        congr 2
        omega
      simp (disch := omega) only [qbI_s, qbL_s, qbV_s, qbR_s, qbR_n, qbN_s, qbN_n, qbIX_s, qbIX_n, qbVX_s, qbVX_n, cond_true, cond_false, cond_dec, jadd, jsub, jmul, jneg, li_0, li_1, li_2, li_3, li_4, li_5, li_6, li_7, li_8, li_9, li_10, li_14, li_15, li_16, li_19, li_20, li_24, li_30, li_31, li_32, li_39, li_40, li_48, li_57, li_59, li_60, li_63, li_65, li_80, li_81, li_90, li_97, li_99, li_100, li_122, li_126, li_127, li_150, li_160, li_200, li_225, li_255, li_400, li_799, li_800, li_999, li_2400, li_3239, li_3240, li_1048575, li_1431655765, li_858993459, li_252645135, eqb_j, ltb_j, leb_j, inb_j, ix_j, ix_n, nz_b, nz_0, nz_1, eqb_b, bnot, vI_ne, vI_eq, gIL, gLI, gIR, gRI, gLR, gRL, Int.reduceLT, Int.reduceLE, Int.reduceEq, Int.reduceAdd, Int.reduceSub, Int.reduceMul, Int.reduceNeg, Int.reduceToNat, Nat.reduceEqDiff, reduceIte, if_neg, if_pos, gI_ne, hpol, e1']
  · obtain ⟨y, v1, e1, hF, hd⟩ := readCond_s v d n p hM a c ha h104 hc
    rcases hd with h | ⟨-, rfl, h4, h5⟩
    · exact absurd h.1 hbad
    · exact ⟨v1, e1, hF.wide fun x k h => by omega, h4, h5⟩
