/-! one line's conditions: both machines come to one outcome -/
theorem tkW4_le (d : Nat → Int) (n p : Nat) : tkW 4 d n p ≤ 1 := by
  unfold tkW
  rw [woV_4]
  split
  · split
    · omega
    · split <;> omega
  · omega
def cnR (c N : Nat) (A B Z : Nat → Int) : Prop := ∀ j, c ≤ j → j < N → (0 ≤ A j ∧ A j ≤ 5) ∧ (0 ≤ B j ∧ B j ≤ 2) ∧ 0 ≤ Z j ∧ Z j ≤ 999
theorem condsLoop (d : Nat → Int) (n : Nat) : ∀ (r c p : Nat), c + r = 3 → p ≤ n → ∃ (ok : Bool) (N : Nat) (A B Z : Nat → Int) (fk : Int) (fp p2 : Nat), (ok = true → c < N ∧ N ≤ 4 ∧ p ≤ p2 ∧ p2 ≤ n ∧ cnR c N A B Z) ∧ (∀ (g q l : Nat) (w : qM), r + 1 < g → 9 ≤ q ∧ q ≤ 40 → qpol q = true → l < 8 → TC w d n → vI w 3 3 = p → wp (fX5_takeConditions_2 q (fX5_takeConditions_35 q) g (Zi l) (Zi c) w) (cnC ok N A B Z fk fp p2 c q l w)) ∧ (∀ (k5 : qM → Option (Option Int32 × qM)) (g a : Nat) (v : qM), r < g → 32 ≤ a ∧ a < 40 → MT v d n p → vI v 104 a = c → ∃ v', (ok = true → MT v' d n p2 ∧ cnM N A B Z c a v v') ∧ (ok = false → cnX fk fp c a v v') ∧ qbVX (fX13_readCond (Zi a) v) (fun m => fX13_readPolicy_43 k5 g (Zi a) m) (fun m => some (none, m)) = if ok = true then aftDo k5 (Zi a) v' else some (none, v')) := by
  intro r
  induction r using Nat.strongRecOn with
  | _ r ih =>
  intro c p hrc hp
  by_cases hok : cdOk d n p
  · have b1 := tkN_r d n p hp
    have b2 := tkN_r d n (tkN d n p) b1.2
    have b3 := tkN_r d n (tkN d n (tkN d n p)) b2.2
    have b4 := tkN_r d n (tkN d n (tkN d n (tkN d n p))) b3.2
    have bF := tF_r d n (tkN d n (tkN d n (tkN d n p))) b3.2
    have rA : 0 ≤ tkW 2 d n p ∧ tkW 2 d n p ≤ 5 := ⟨by have := (woV_r 2 (by decide) d (tF d n p) (tU d n (tF d n p)) (tK d n (tF d n p))).1; have := hok.1; unfold tkW at *; omega, woV2_r d _ _ _⟩
    have rB : 0 ≤ tkW 3 d n (tkN d n p) ∧ tkW 3 d n (tkN d n p) ≤ 2 := ⟨by have := (woV_r 3 (by decide) d (tF d n (tkN d n p)) (tU d n (tF d n (tkN d n p))) (tK d n (tF d n (tkN d n p)))).1; have := hok.2.1; unfold tkW at *; omega, woV3_r d _ _ _⟩
    have rZ : 0 ≤ tkV d n (tkN d n (tkN d n p)) ∧ tkV d n (tkN d n (tkN d n p)) ≤ 999 := nV_cast hok.2.2
    have w4 := tkW4_r d n (tkN d n (tkN d n (tkN d n p)))
    have w4' := tkW4_le d n (tkN d n (tkN d n (tkN d n p)))
    have upC := fun (q l : Nat) (w : qM) (g : Nat) (hq : 9 ≤ q ∧ q ≤ 40) (hpol : qpol q = true) (hl : l < 8) (hT : TC w d n) (h33 : vI w 3 3 = p) => condUp d n c p (by omega) hp hok q l w g hq hpol hl hT h33
    have upM : ∀ (a : Nat) (v : qM), 32 ≤ a ∧ a < 40 → MT v d n p → vI v 104 a = c → ∃ v1, fX13_readCond (Zi a) v = some (some (), v1) ∧ Fr (fun x k => x = 98 ∧ 14 ≤ k ∧ k ≤ 19 ∨ (x = 105 ∨ x = 106 ∨ x = 107) ∧ k = 4 * a + c ∨ x = 104 ∧ k = a) v v1 ∧ vI v1 105 (4 * a + c) = tkW 2 d n p ∧ vI v1 106 (4 * a + c) = cmpV (tkW 3 d n (tkN d n p)) ∧ vI v1 107 (4 * a + c) = tkV d n (tkN d n (tkN d n p)) ∧ vI v1 104 a = ((c + 1 : Nat) : Int) ∧ MT v1 d n (tkN d n (tkN d n (tkN d n p))) ∧ gI v1 98 18 = gI v 98 18 ∧ gI v1 98 19 = gI v 98 19 := by
      intro a v ha hM h104
      obtain ⟨y, v1, e1, hF, hd⟩ := readCond_s v d n p hM a c ha h104 (by omega)
      rcases hd with ⟨-, rfl, h5, h6, h7, h8, h9, h10, h11⟩ | h
      · exact ⟨v1, e1, hF, h5, h6, h7, by rw [h8]; omega, h9, h10, h11⟩
      · exact absurd hok h.1
    generalize hP : tkN d n (tkN d n (tkN d n p)) = P at *
    generalize tkW 2 d n p = a0 at *
    generalize tkW 3 d n (tkN d n p) = b0 at *
    generalize tkV d n (tkN d n (tkN d n p)) = z0 at *
    by_cases g1 : tkW 4 d n P = 1
    · by_cases hr : r = 0
      · -- a fifth condition
        have hc3 : c = 3 := by omega
        refine ⟨false, 0, fun _ => 0, fun _ => 0, fun _ => 0, 4, tF d n P, 0, fun h => (by cases h), ?_, ?_⟩
        · intro g q l w hg hq hpol hl hT h33
          obtain ⟨g, rfl⟩ : ∃ g', g = g' + 2 := ⟨g - 2, by omega⟩
          obtain ⟨w2, hF, h1, h2, h3, h4, h5, h6, e⟩ := upC q l w (g + 1) hq hpol hl hT h33
          rw [if_pos g1] at e
          refine wp_e (x := Zi 0) (m := sI (sI w2 3 4 (Zi 4)) 3 5 (gI w2 3 2)) ?_ ⟨rfl, ((hF.wide fun x k h => by omega).wI 3 4 _ (by omega)).wI 3 5 _ (by omega), fun h => (by cases h), fun _ => ⟨?_, ?_⟩⟩
          · rw [e, fX5_takeConditions_2]
            simp (disch := omega) only [qbI_s, qbL_s, qbV_s, qbR_s, qbR_n, qbN_s, qbN_n, qbIX_s, qbIX_n, qbVX_s, qbVX_n, cond_true, cond_false, cond_dec, jadd, jsub, jmul, jneg, li_0, li_1, li_2, li_3, li_4, li_5, li_6, li_7, li_8, li_9, li_10, li_14, li_15, li_16, li_19, li_20, li_24, li_30, li_31, li_32, li_39, li_40, li_48, li_57, li_59, li_60, li_63, li_65, li_80, li_81, li_90, li_97, li_99, li_100, li_122, li_126, li_127, li_150, li_160, li_200, li_225, li_255, li_400, li_799, li_800, li_999, li_2400, li_3239, li_3240, li_1048575, li_1431655765, li_858993459, li_252645135, eqb_j, ltb_j, leb_j, inb_j, ix_j, ix_n, nz_b, nz_0, nz_1, eqb_b, bnot, vI_ne, vI_eq, gIL, gLI, gIR, gRI, gLR, gRL, Int.reduceLT, Int.reduceLE, Int.reduceEq, Int.reduceAdd, Int.reduceSub, Int.reduceMul, Int.reduceNeg, Int.reduceToNat, Nat.reduceEqDiff, reduceIte, if_neg, if_pos, gI_ne, fail_s]
          · rw [vI_nk (by omega), vI_eq (by omega), if_pos rfl]
          · rw [gIv 3, h5, vI_eq (by have := hT.2.1; omega), if_pos rfl]
        · intro k5 g a v hg ha hM h104
          obtain ⟨g, rfl⟩ : ∃ g', g = g' + 1 := ⟨g - 1, by omega⟩
          obtain ⟨v1, e1, hF, h5, h6, h7, h8, h9, h10, h11⟩ := upM a v ha hM h104
          obtain ⟨v2, hM2, hF2, e2⟩ := more_s v1 d n P h9 a (c + 1) ha h8 (by omega) k5 g
          rw [if_pos g1, if_pos (by omega)] at e2
          refine ⟨sI (sI v1 98 18 (Zi 4)) 98 19 (gI v1 98 14), fun h => (by cases h), fun _ => ⟨((hF.wide fun x k h => by omega).wI 98 18 _ (by omega)).wI 98 19 _ (by omega), ?_, ?_⟩, ?_⟩
          · rw [vI_nk (by omega), vI_eq (by omega), if_pos rfl]
          · rw [gIv 98, h9.2.2.1, vI_eq (by have := h9.1.2.1; omega), if_pos rfl]
          · rw [e1, qbVX_s, e2, if_neg (by decide)]
      · -- one more
        obtain ⟨ok, N, A, B, Z, fk, fp, p2, c1, hC, hM⟩ := ih (r - 1) (by omega) (c + 1) (tkN d n P) (by omega) b4.2
        refine ⟨ok, N, fun j => if j = c then a0 else A j, fun j => if j = c then b0 else B j, fun j => if j = c then z0 else Z j, fk, fp, p2, fun h => ?_, ?_, ?_⟩
        · obtain ⟨k1, k2, k3, k4, k5⟩ := c1 h
          refine ⟨by omega, k2, by omega, k4, fun j h1 h2 => ?_⟩
          by_cases e : j = c
          · simp only [if_pos e]
            exact ⟨rA, rB, rZ⟩
          · simp only [if_neg e]
            exact k5 j (by omega) h2
        · intro g q l w hg hq hpol hl hT h33
          obtain ⟨g, rfl⟩ : ∃ g', g = g' + 1 := ⟨g - 1, by omega⟩
          obtain ⟨w2, hF, h1, h2, h3, h4, h5, h6, e⟩ := upC q l w g hq hpol hl hT h33
          rw [if_pos g1] at e
          rcases h6 with ⟨k1, k2, k3, k4⟩ | ⟨k1, -⟩
          · obtain ⟨y, w9, e9, hy, hF9, o9, x9⟩ := hC g q l w2 (by omega) hq hpol hl (hT.mono fun x k h => hF.1 x k (by omega)) k2
            refine ⟨y, w9, by rw [e]; exact e9, hy, (hF.wide fun x k h => by omega).tr (hF9.wide fun x k h => by omega), fun h => ?_, x9⟩
            obtain ⟨q1, q2, q3, q4, q5⟩ := o9 h
            refine ⟨q1, fun j h1' h2' => ?_, q3, by rw [q4, k3], by rw [q5, k4]⟩
            by_cases e : j = c
            · simp only [if_pos e]
              rw [e, hF9.v (q + 2) _ (by omega), hF9.v (q + 3) _ (by omega), hF9.v (q + 4) _ (by omega)]
              exact ⟨h2, h3, h4⟩
            · simp only [if_neg e]
              exact q2 j (by omega) h2'
          · omega
        · intro k5 g a v hg ha hMv h104
          obtain ⟨g, rfl⟩ : ∃ g', g = g' + 1 := ⟨g - 1, by omega⟩
          obtain ⟨v1, e1, hF, h5, h6, h7, h8, h9, h10, h11⟩ := upM a v ha hMv h104
          obtain ⟨v2, hM2, hF2, e2⟩ := more_s v1 d n P h9 a (c + 1) ha h8 (by omega) k5 g
          rw [if_pos g1, if_neg (by omega)] at e2
          obtain ⟨v', o9, x9, e9⟩ := hM k5 g a v2 (by omega) ha hM2 (by rw [hF2.v 104 a (by omega), h8])
          have FF : Fr (fun x k => x = 98 ∧ 14 ≤ k ∧ k ≤ 19 ∨ x = 104 ∧ k = a ∨ (x = 105 ∨ x = 106 ∨ x = 107) ∧ 4 * a + c ≤ k ∧ k < 4 * a + 4) v v2 := (hF.wide fun x k h => by omega).tr (hF2.wide fun x k h => by omega)
          refine ⟨v', fun h => ?_, fun h => ?_, by rw [e1, qbVX_s, e2]; exact e9⟩
          · obtain ⟨t1, t2, t3, t4, t5, t6⟩ := o9 h
            refine ⟨t1, FF.tr (t2.wide fun x k h => by omega), t3, fun j h1' h2' => ?_, by rw [t5, hF2.1 98 18 (by omega), h10], by rw [t6, hF2.1 98 19 (by omega), h11]⟩
            by_cases e : j = c
            · simp only [if_pos e]
              rw [e, t2.v 105 _ (by omega), t2.v 106 _ (by omega), t2.v 107 _ (by omega), hF2.v 105 _ (by omega), hF2.v 106 _ (by omega), hF2.v 107 _ (by omega)]
              exact ⟨h5, h6, h7⟩
            · simp only [if_neg e]
              exact t4 j (by omega) h2'
          · obtain ⟨t1, t2, t3⟩ := x9 h
            exact ⟨FF.tr (t1.wide fun x k h => by omega), t2, t3⟩
    · by_cases g0 : tkW 4 d n P = 0
      · refine ⟨true, c + 1, fun _ => a0, fun _ => b0, fun _ => z0, 0, 0, tkN d n P, fun _ => ⟨by omega, by omega, by omega, b4.2, fun j h1 h2 => ⟨rA, rB, rZ⟩⟩, ?_, ?_⟩
        · intro g q l w hg hq hpol hl hT h33
          obtain ⟨g, rfl⟩ : ∃ g', g = g' + 1 := ⟨g - 1, by omega⟩
          obtain ⟨w2, hF, h1, h2, h3, h4, h5, h6, e⟩ := upC q l w g hq hpol hl hT h33
          rw [if_neg g1, if_pos g0] at e
          rcases h6 with ⟨k1, k2, k3, k4⟩ | ⟨k1, -⟩
          · refine wp_e (x := Zi 1) (m := w2) e ⟨rfl, hF.wide fun x k h => by omega, fun _ => ⟨by rw [h1]; omega, fun j h1' h2' => ?_, k2, k3, k4⟩, fun h => (by cases h)⟩
            rw [show j = c by omega]
            exact ⟨h2, h3, h4⟩
          · omega
        · intro k5 g a v hg ha hM h104
          obtain ⟨g, rfl⟩ : ∃ g', g = g' + 1 := ⟨g - 1, by omega⟩
          obtain ⟨v1, e1, hF, h5, h6, h7, h8, h9, h10, h11⟩ := upM a v ha hM h104
          obtain ⟨v2, hM2, hF2, e2⟩ := more_s v1 d n P h9 a (c + 1) ha h8 (by omega) k5 g
          rw [if_neg g1, if_pos g0] at e2
          refine ⟨v2, fun _ => ⟨hM2, (hF.wide fun x k h => by omega).tr (hF2.wide fun x k h => by omega), by rw [hF2.v 104 a (by omega), h8], fun j h1' h2' => ?_, by rw [hF2.1 98 18 (by omega), h10], by rw [hF2.1 98 19 (by omega), h11]⟩, fun h => (by cases h), by rw [e1, qbVX_s, e2, if_pos rfl]⟩
          rw [show j = c by omega, hF2.v 105 _ (by omega), hF2.v 106 _ (by omega), hF2.v 107 _ (by omega)]
          exact ⟨h5, h6, h7⟩
      · refine ⟨false, 0, fun _ => 0, fun _ => 0, fun _ => 0, 1, tF d n P, 0, fun h => (by cases h), ?_, ?_⟩
        · intro g q l w hg hq hpol hl hT h33
          obtain ⟨g, rfl⟩ : ∃ g', g = g' + 1 := ⟨g - 1, by omega⟩
          obtain ⟨w2, hF, h1, h2, h3, h4, h5, h6, e⟩ := upC q l w g hq hpol hl hT h33
          rw [if_neg g1, if_neg g0] at e
          rcases h6 with ⟨k1, -⟩ | ⟨k1, k2, k3⟩
          · omega
          · exact wp_e (x := Zi 0) (m := w2) e ⟨rfl, hF.wide fun x k h => by omega, fun h => (by cases h), fun _ => ⟨k2, k3⟩⟩
        · intro k5 g a v hg ha hM h104
          obtain ⟨g, rfl⟩ : ∃ g', g = g' + 1 := ⟨g - 1, by omega⟩
          obtain ⟨v1, e1, hF, h5, h6, h7, h8, h9, h10, h11⟩ := upM a v ha hM h104
          obtain ⟨v2, hM2, hF2, e2⟩ := more_s v1 d n P h9 a (c + 1) ha h8 (by omega) k5 g
          rw [if_neg g1, if_neg g0] at e2
          refine ⟨sI (sI v1 98 18 (Zi 1)) 98 19 (gI v1 98 14), fun h => (by cases h), fun _ => ⟨((hF.wide fun x k h => by omega).wI 98 18 _ (by omega)).wI 98 19 _ (by omega), ?_, ?_⟩, ?_⟩
          · rw [vI_nk (by omega), vI_eq (by omega), if_pos rfl]
          · rw [gIv 98, h9.2.2.1, vI_eq (by have := h9.1.2.1; omega), if_pos rfl]
          · rw [e1, qbVX_s, e2, if_neg (by decide)]
  · obtain ⟨h1, h2⟩ := condsBad d n c p (by omega) hp hok
    refine ⟨false, 0, fun _ => 0, fun _ => 0, fun _ => 0, 1, cdFp d n p, 0, fun h => (by cases h), fun g q l w hg hq hpol hl hT h33 => h1 g q l w (by omega) hq hpol hl hT h33, fun k5 g a v hg ha hM h104 => ?_⟩
    obtain ⟨v', e, hX⟩ := h2 a v ha hM h104
    refine ⟨v', fun h => (by cases h), fun _ => hX, ?_⟩
    rw [e, qbVX_n, if_neg (by decide)]
