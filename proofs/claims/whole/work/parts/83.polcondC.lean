/-! a policy's condition: the class's -/
noncomputable def tkN (d : Nat → Int) (n p : Nat) : Nat := tU d n (tF d n p)
noncomputable def tkW (T : Nat) (d : Nat → Int) (n p : Nat) : Int := woV T d (tF d n p) (tU d n (tF d n p)) (tK d n (tF d n p))
noncomputable def tkV (d : Nat → Int) (n p : Nat) : Int := nV d (tF d n p) (tU d n (tF d n p) - tF d n p)
def cdOk (d : Nat → Int) (n p : Nat) : Prop := ¬ tkW 2 d n p = -1 ∧ ¬ tkW 3 d n (tkN d n p) = -1 ∧ tK d n (tF d n (tkN d n (tkN d n p))) = 2
noncomputable def cdFp (d : Nat → Int) (n p : Nat) : Nat := if tkW 2 d n p = -1 then tF d n p else if tkW 3 d n (tkN d n p) = -1 then tF d n (tkN d n p) else tF d n (tkN d n (tkN d n p))
theorem tkN_r (d : Nat → Int) (n p : Nat) (h : p ≤ n) : p ≤ tkN d n p ∧ tkN d n p ≤ n := by
  have h1 := tF_r d n p h
  have h2 := tU_r d n (tF d n p) h1.2
  unfold tkN
  omega
theorem takeCond_s (m : qM) (d : Nat → Int) (n p : Nat) (hT : TC m d n) (h33 : vI m 3 3 = p) (hp : p ≤ n) (r i : Nat) (hr : 9 ≤ r ∧ r ≤ 40) (hi : i < 32) : wp (fX5_takeCondition r (Zi i) m) (fun y w' => Fr (fun c k => c = 3 ∧ 1 ≤ k ∧ k ≤ 5 ∨ (c = r + 2 ∨ c = r + 3 ∨ c = r + 4) ∧ k = i) m w' ∧ ((cdOk d n p ∧ y = Zi 1 ∧ vI w' (r + 2) i = tkW 2 d n p ∧ vI w' (r + 3) i = tkW 3 d n (tkN d n p) ∧ vI w' (r + 4) i = tkV d n (tkN d n (tkN d n p)) ∧ vI w' 3 3 = tkN d n (tkN d n (tkN d n p)) ∧ gI w' 3 4 = gI m 3 4 ∧ gI w' 3 5 = gI m 3 5) ∨ (¬ cdOk d n p ∧ y = Zi 0 ∧ vI w' 3 4 = 1 ∧ vI w' 3 5 = cdFp d n p))) := by
  have hn := hT.2.1
  have b1 := tkN_r d n p hp
  have b2 := tkN_r d n (tkN d n p) b1.2
  have b3 := tkN_r d n (tkN d n (tkN d n p)) b2.2
  rw [fX5_takeCondition_d]
  obtain ⟨y1, w1, e1, hF1, hy1, hd1⟩ := takeWord_s m d n p hT h33 hp 2 (by decide)
  subst hy1
  have q1 : -1 ≤ tkW 2 d n p ∧ tkW 2 d n p ≤ 41 := woV_r 2 (by decide) d (tF d n p) (tU d n (tF d n p)) (tK d n (tF d n p))
  change fX6_takeWordOf 10102 m = some (Zi (tkW 2 d n p), w1) at e1
  change (0 ≤ tkW 2 d n p ∧ vI w1 3 3 = (tkN d n p : Nat) ∧ _) ∨ (tkW 2 d n p = -1 ∧ _) at hd1
  have F1 : Fr (fun c k => c = 3 ∧ 1 ≤ k ∧ k ≤ 5 ∨ (c = r + 2 ∨ c = r + 3 ∨ c = r + 4) ∧ k = i) m (sI w1 (r + 2) i (Zi (tkW 2 d n p))) := (hF1.wide fun c k hc => by omega).wI (r + 2) i _ (by omega)
  rcases hd1 with ⟨a0, a1, a2, a3⟩ | ⟨a0, a1, a2⟩
  · have hT1 : TC (sI w1 (r + 2) i (Zi (tkW 2 d n p))) d n := hT.mono fun c k hc => F1.1 c k (by omega)
    obtain ⟨y2, w2, e2, hF2, hy2, hd2⟩ := takeWord_s (sI w1 (r + 2) i (Zi (tkW 2 d n p))) d n (tkN d n p) hT1 (by rw [vI_ne (by omega)]; exact a1) b1.2 3 (by decide)
    subst hy2
    have q2 : -1 ≤ tkW 3 d n (tkN d n p) ∧ tkW 3 d n (tkN d n p) ≤ 41 := woV_r 3 (by decide) d (tF d n (tkN d n p)) (tU d n (tF d n (tkN d n p))) (tK d n (tF d n (tkN d n p)))
    change fX6_takeWordOf 10103 _ = some (Zi (tkW 3 d n (tkN d n p)), w2) at e2
    change (0 ≤ tkW 3 d n (tkN d n p) ∧ vI w2 3 3 = (tkN d n (tkN d n p) : Nat) ∧ _) ∨ (tkW 3 d n (tkN d n p) = -1 ∧ _) at hd2
    have F2 : Fr (fun c k => c = 3 ∧ 1 ≤ k ∧ k ≤ 5 ∨ (c = r + 2 ∨ c = r + 3 ∨ c = r + 4) ∧ k = i) m (sI w2 (r + 3) i (Zi (tkW 3 d n (tkN d n p)))) := (F1.tr (hF2.wide fun c k hc => by omega)).wI (r + 3) i _ (by omega)
    rcases hd2 with ⟨c0, c1, c2, c3⟩ | ⟨c0, c1, c2⟩
    · have hT2 : TC (sI w2 (r + 3) i (Zi (tkW 3 d n (tkN d n p)))) d n := hT.mono fun c k hc => F2.1 c k (by omega)
      obtain ⟨y3, w3, e3, hF3, hd3⟩ := takeNum_s (sI w2 (r + 3) i (Zi (tkW 3 d n (tkN d n p)))) d n (tkN d n (tkN d n p)) hT2 (by rw [vI_ne (by omega)]; exact c1) b2.2 0 999 (by omega) (by omega)
      have FF : ∀ z : Int32, Fr (fun c k => c = 3 ∧ 1 ≤ k ∧ k ≤ 5 ∨ (c = r + 2 ∨ c = r + 3 ∨ c = r + 4) ∧ k = i) m (sI w3 (r + 4) i z) := fun z => (F2.tr (hF3.wide fun c k hc => by omega)).wI (r + 4) i _ (by omega)
      rcases hd3 with ⟨k1, k2, k3, k4, k5, k6⟩ | ⟨k1, k2, k3⟩ | ⟨k1, k3, k4, k5⟩
      · have nr := nV_cast k1
        change y3 = Zi (tkV d n (tkN d n (tkN d n p))) at k3
        change 0 ≤ tkV d n (tkN d n (tkN d n p)) ∧ tkV d n (tkN d n (tkN d n p)) ≤ 999 at nr
        subst k3
        refine wp_e (x := Zi 1) (m := sI w3 (r + 4) i (Zi (tkV d n (tkN d n (tkN d n p))))) ?_ ⟨FF _, Or.inl ⟨⟨by omega, by omega, k1⟩, rfl, ?_, ?_, ?_, ?_, ?_, ?_⟩⟩
        · simp (disch := omega) only [fX5_takeCondition_0, fX5_takeCondition_47, e1, e2, e3, qbI_s, qbL_s, qbV_s, qbR_s, qbR_n, qbN_s, qbN_n, qbIX_s, qbIX_n, qbVX_s, qbVX_n, cond_true, cond_false, cond_dec, jadd, jsub, jmul, jneg, li_0, li_1, li_2, li_3, li_4, li_5, li_6, li_7, li_8, li_9, li_10, li_14, li_15, li_16, li_19, li_20, li_24, li_30, li_31, li_32, li_39, li_40, li_48, li_57, li_59, li_60, li_63, li_65, li_80, li_81, li_90, li_97, li_99, li_100, li_122, li_126, li_127, li_150, li_160, li_200, li_225, li_255, li_400, li_799, li_800, li_999, li_2400, li_3239, li_3240, li_1048575, li_1431655765, li_858993459, li_252645135, eqb_j, ltb_j, leb_j, inb_j, ix_j, ix_n, nz_b, nz_0, nz_1, eqb_b, bnot, vI_ne, vI_eq, gIL, gLI, gIR, gRI, gLR, gRL, Int.reduceLT, Int.reduceLE, Int.reduceEq, Int.reduceAdd, Int.reduceSub, Int.reduceMul, Int.reduceNeg, Int.reduceToNat, Nat.reduceEqDiff, reduceIte, if_neg, if_pos, gI_ne, gI_sI, true_and, show (-1 : Int32) = Zi (-1) from rfl]
        · rw [vI_ne (by omega), hF3.v (r + 2) i (by omega), vI_ne (by omega), hF2.v (r + 2) i (by omega), vI_eq (by omega), if_pos rfl]
        · rw [vI_ne (by omega), hF3.v (r + 3) i (by omega), vI_eq (by omega), if_pos rfl]
        · rw [vI_eq (by omega), if_pos rfl]
        · rw [vI_ne (by omega)]; exact k4
        · rw [gI_ne (by omega), k5, gI_ne (by omega), c2, gI_ne (by omega), a2]
        · rw [gI_ne (by omega), k6, gI_ne (by omega), c3, gI_ne (by omega), a3]
      · have nr := nV_cast k1
        exact absurd ⟨nr.1, nr.2⟩ k2
      · subst k3
        refine wp_e (x := Zi 0) (m := sI w3 (r + 4) i (Zi (-1))) ?_ ⟨FF _, Or.inr ⟨fun h => k1 h.2.2, rfl, ?_, ?_⟩⟩
        · simp (disch := omega) only [fX5_takeCondition_0, fX5_takeCondition_47, e1, e2, e3, qbI_s, qbL_s, qbV_s, qbR_s, qbR_n, qbN_s, qbN_n, qbIX_s, qbIX_n, qbVX_s, qbVX_n, cond_true, cond_false, cond_dec, jadd, jsub, jmul, jneg, li_0, li_1, li_2, li_3, li_4, li_5, li_6, li_7, li_8, li_9, li_10, li_14, li_15, li_16, li_19, li_20, li_24, li_30, li_31, li_32, li_39, li_40, li_48, li_57, li_59, li_60, li_63, li_65, li_80, li_81, li_90, li_97, li_99, li_100, li_122, li_126, li_127, li_150, li_160, li_200, li_225, li_255, li_400, li_799, li_800, li_999, li_2400, li_3239, li_3240, li_1048575, li_1431655765, li_858993459, li_252645135, eqb_j, ltb_j, leb_j, inb_j, ix_j, ix_n, nz_b, nz_0, nz_1, eqb_b, bnot, vI_ne, vI_eq, gIL, gLI, gIR, gRI, gLR, gRL, Int.reduceLT, Int.reduceLE, Int.reduceEq, Int.reduceAdd, Int.reduceSub, Int.reduceMul, Int.reduceNeg, Int.reduceToNat, Nat.reduceEqDiff, reduceIte, if_neg, if_pos, gI_ne, gI_sI, true_and, show (-1 : Int32) = Zi (-1) from rfl]
        · rw [vI_ne (by omega)]; exact k4
        · rw [vI_ne (by omega), k5, cdFp, if_neg (by omega), if_neg (by omega)]
    · refine wp_e (x := Zi 0) (m := sI w2 (r + 3) i (Zi (tkW 3 d n (tkN d n p)))) ?_ ⟨F2, Or.inr ⟨fun h => h.2.1 c0, rfl, ?_, ?_⟩⟩
      · simp (disch := omega) only [fX5_takeCondition_0, fX5_takeCondition_47, e1, e2, c0, qbI_s, qbL_s, qbV_s, qbR_s, qbR_n, qbN_s, qbN_n, qbIX_s, qbIX_n, qbVX_s, qbVX_n, cond_true, cond_false, cond_dec, jadd, jsub, jmul, jneg, li_0, li_1, li_2, li_3, li_4, li_5, li_6, li_7, li_8, li_9, li_10, li_14, li_15, li_16, li_19, li_20, li_24, li_30, li_31, li_32, li_39, li_40, li_48, li_57, li_59, li_60, li_63, li_65, li_80, li_81, li_90, li_97, li_99, li_100, li_122, li_126, li_127, li_150, li_160, li_200, li_225, li_255, li_400, li_799, li_800, li_999, li_2400, li_3239, li_3240, li_1048575, li_1431655765, li_858993459, li_252645135, eqb_j, ltb_j, leb_j, inb_j, ix_j, ix_n, nz_b, nz_0, nz_1, eqb_b, bnot, vI_ne, vI_eq, gIL, gLI, gIR, gRI, gLR, gRL, Int.reduceLT, Int.reduceLE, Int.reduceEq, Int.reduceAdd, Int.reduceSub, Int.reduceMul, Int.reduceNeg, Int.reduceToNat, Nat.reduceEqDiff, reduceIte, if_neg, if_pos, gI_ne, gI_sI, true_and, show (-1 : Int32) = Zi (-1) from rfl]
      · rw [vI_ne (by omega)]; exact c1
      · rw [vI_ne (by omega), c2, cdFp, if_neg (by omega), if_pos c0]
  · refine wp_e (x := Zi 0) (m := sI w1 (r + 2) i (Zi (tkW 2 d n p))) ?_ ⟨F1, Or.inr ⟨fun h => h.1 a0, rfl, ?_, ?_⟩⟩
    · simp (disch := omega) only [fX5_takeCondition_0, fX5_takeCondition_47, e1, a0, qbI_s, qbL_s, qbV_s, qbR_s, qbR_n, qbN_s, qbN_n, qbIX_s, qbIX_n, qbVX_s, qbVX_n, cond_true, cond_false, cond_dec, jadd, jsub, jmul, jneg, li_0, li_1, li_2, li_3, li_4, li_5, li_6, li_7, li_8, li_9, li_10, li_14, li_15, li_16, li_19, li_20, li_24, li_30, li_31, li_32, li_39, li_40, li_48, li_57, li_59, li_60, li_63, li_65, li_80, li_81, li_90, li_97, li_99, li_100, li_122, li_126, li_127, li_150, li_160, li_200, li_225, li_255, li_400, li_799, li_800, li_999, li_2400, li_3239, li_3240, li_1048575, li_1431655765, li_858993459, li_252645135, eqb_j, ltb_j, leb_j, inb_j, ix_j, ix_n, nz_b, nz_0, nz_1, eqb_b, bnot, vI_ne, vI_eq, gIL, gLI, gIR, gRI, gLR, gRL, Int.reduceLT, Int.reduceLE, Int.reduceEq, Int.reduceAdd, Int.reduceSub, Int.reduceMul, Int.reduceNeg, Int.reduceToNat, Nat.reduceEqDiff, reduceIte, if_neg, if_pos, gI_ne, gI_sI, true_and, show (-1 : Int32) = Zi (-1) from rfl]
    · rw [vI_ne (by omega)]; exact a1
    · rw [vI_ne (by omega), a2, cdFp, if_pos a0]
