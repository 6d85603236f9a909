/-! the class lays the picked asks best -/
noncomputable def cntL (d : Dt) (p : Nat → Nat) : Nat → Nat := fb_ct (fun j => decide (d 125 (p j) ≠ -1))
def FP (m m' : qM) : Prop := (∀ c k, ¬ (c = 58 ∧ 13 ≤ k ∧ k ≤ 16 ∨ c = 62 ∨ 64 ≤ c ∧ c ≤ 67 ∨ c = 71 ∨ c = 72 ∨ c = 68 ∧ k = 8) → gI m' c k = gI m c k) ∧ gR m' = gR m
theorem putAll {d0 : Dt} {p : Nat → Nat} {al : Nat → Bool} {N : Nat} (hP : Pk d0 p N) (Q : Int32 → qM → Prop) : ∀ (i : Nat) (d : Dt), i ≤ N → Reach d0 p al i d → ∀ (g : Nat) (m : qM), CAll m d0 → vI m 68 7 = N → (∀ j, j < N → vI m 69 j = p j) → (∀ j, j < i → vI m 72 j = slN (d 125 (p j))) → (∀ m', CAll m' d → Fr plP m m' → wp (fX0_layPicked_42 g (Zi (cntL d p i)) (Zi i) m') Q) → wp (fX0_layPicked_42 (g + i) (Zi 0) (Zi 0) m) Q := by
  have n4 := hP.1
  have h40 := hP.2.1.2.2.2.2.2.1
  intro i
  induction i with
  | zero =>
    intro d hi hR g m hC h7 h69 h72 hk
    have hd : d = d0 := hR
    rw [hd] at hk
    exact hk m hC (Fr.rf m)
  | succ i ih =>
    intro d hi hR g m hC h7 h69 h72 hk
    obtain ⟨d', r1, r2⟩ := hR
    have un := r1.un hP (show i < N by omega)
    have fd := r1.f hP (by omega)
    have same : ∀ j, j < i → d 125 (p j) = d' 125 (p j) := fun j hj => by
      rcases r2 with r2 | ⟨s, s1, s2, s3, r2⟩
      · rw [r2]
      · rw [r2, upS_eq, if_neg (fun e => by have := hP.2.2.2 j i (by omega) (by omega) e; omega)]
    have cs : cntL d p i = cntL d' p i := fb_ct_cong fun j hj => by rw [same j hj]
    have cle := fb_ct_le (fun j => decide (d' 125 (p j) ≠ -1)) i
    have cle' : cntL d' p i ≤ i := cle
    have h72i := h72 i (by omega)
    have ih' := ih d' (by omega) r1 (g + 1) m hC h7 h69 (fun j hj => by rw [h72 j (by omega), same j hj])
    rw [show g + (i + 1) = g + 1 + i by omega]
    refine ih' fun m' hC' hF => ?_
    have q : ∀ c k, ¬ (c = 58 ∧ 13 ≤ k ∧ k ≤ 16 ∨ c = 62 ∨ 64 ≤ c ∧ c ≤ 67) → vI m' c k = vI m c k := fun c k hc => vI_of (hF.1 c k hc)
    have q1 := (q 68 7 (by omega)).trans h7
    have q2 := (q 69 i (by omega)).trans (h69 i (by omega))
    have q3 := (q 72 i (by omega)).trans h72i
    rcases r2 with r2 | ⟨s, s1, s2, s3, r2⟩
    · rw [r2, un.1] at q3
      have q3' : vI m' 72 i = 20 := q3
      have cn : cntL d p (i + 1) = cntL d' p i := by
        have : cntL d p (i + 1) = cntL d p i + (if decide (d 125 (p i) ≠ -1) then 1 else 0) := fb_ct_succ _ _
        rw [this, cs, r2, un.1]
        rfl
      have k0 := hk m' (by rw [r2]; exact hC') hF
      rw [cn] at k0
      simp (disch := omega) only [fX0_layPicked_42, fX0_layPicked_64, qbI_s, qbL_s, qbV_s, qbR_s, qbR_n, qbN_s, qbN_n, qbIX_s, qbIX_n, qbVX_s, qbVX_n, cond_true, cond_false, cond_dec, jadd, jsub, jmul, jneg, li_0, li_1, li_2, li_3, li_4, li_5, li_6, li_7, li_8, li_9, li_10, li_14, li_15, li_16, li_19, li_20, li_24, li_30, li_31, li_32, li_39, li_40, li_48, li_57, li_59, li_60, li_63, li_65, li_80, li_81, li_90, li_97, li_99, li_100, li_122, li_126, li_127, li_150, li_160, li_200, li_225, li_255, li_400, li_799, li_800, li_999, li_2400, li_3239, li_3240, li_1048575, li_1431655765, li_858993459, li_252645135, eqb_j, ltb_j, leb_j, inb_j, ix_j, ix_n, nz_b, nz_0, nz_1, eqb_b, bnot, vI_ne, vI_eq, gIL, gLI, gIR, gRI, gLR, gRL, Int.reduceLT, Int.reduceLE, Int.reduceEq, Int.reduceAdd, Int.reduceSub, Int.reduceMul, Int.reduceNeg, Int.reduceToNat, Nat.reduceEqDiff, reduceIte, if_neg, if_pos, gI_ne, gIv 68, q1, gIv 72, q3']
      exact k0
    · rw [r2, upS_eq, if_pos rfl, slN, if_neg (by omega)] at q3
      obtain ⟨x, m2, p1, p2, p3⟩ := put_s m' d' hC' (p i) s un.2 un.1 s1 (NC.of_mb s2)
      have cn : cntL d p (i + 1) = cntL d' p i + 1 := by
        have : cntL d p (i + 1) = cntL d p i + (if decide (d 125 (p i) ≠ -1) then 1 else 0) := fb_ct_succ _ _
        rw [this, cs, r2, upS_eq, if_pos rfl, decide_eq_true (show (s : Int) ≠ -1 by omega)]
        rfl
      have k0 := hk m2 (by rw [r2]; exact p2) (hF.tr p3)
      rw [cn] at k0
      have hpl := (hP.2.2.1 i (by omega)).1
      simp (disch := omega) only [fX0_layPicked_42, fX0_layPicked_64, qbI_s, qbL_s, qbV_s, qbR_s, qbR_n, qbN_s, qbN_n, qbIX_s, qbIX_n, qbVX_s, qbVX_n, cond_true, cond_false, cond_dec, jadd, jsub, jmul, jneg, li_0, li_1, li_2, li_3, li_4, li_5, li_6, li_7, li_8, li_9, li_10, li_14, li_15, li_16, li_19, li_20, li_24, li_30, li_31, li_32, li_39, li_40, li_48, li_57, li_59, li_60, li_63, li_65, li_80, li_81, li_90, li_97, li_99, li_100, li_122, li_126, li_127, li_150, li_160, li_200, li_225, li_255, li_400, li_799, li_800, li_999, li_2400, li_3239, li_3240, li_1048575, li_1431655765, li_858993459, li_252645135, eqb_j, ltb_j, leb_j, inb_j, ix_j, ix_n, nz_b, nz_0, nz_1, eqb_b, bnot, vI_ne, vI_eq, gIL, gLI, gIR, gRI, gLR, gRL, Int.reduceLT, Int.reduceLE, Int.reduceEq, Int.reduceAdd, Int.reduceSub, Int.reduceMul, Int.reduceNeg, Int.reduceToNat, Nat.reduceEqDiff, reduceIte, if_neg, if_pos, gI_ne, gIv 68, q1, gIv 69, q2, gIv 72, q3, p1]
      exact k0
theorem layPicked_s {d0 : Dt} {p : Nat → Nat} {al : Nat → Bool} {N : Nat} (hP : Pk d0 p N) (m : qM) (hC : CAll m d0) (h7 : vI m 68 7 = N) (h69 : ∀ j, j < N → vI m 69 j = p j) (x : Int32) (hx : ∀ s, s < 20 → bt x s = al s) : Reach d0 p al N (enB p al N 0 d0 (-1, d0)).2 ∧ wp (fX0_layPicked x m) (fun y m' => y = Zi (cntL (enB p al N 0 d0 (-1, d0)).2 p N) ∧ CAll m' (enB p al N 0 d0 (-1, d0)).2 ∧ FP m m') := by
  have n4 := hP.1
  have hB := enB_ok (d0 := d0) (p := p) (al := al) (N := N) N 0 d0 (-1, d0) (by omega) rfl (Or.inl rfl)
  have hge := enB_ge p al N 0 d0 (-1, d0)
  have hw := wD_r d0 hP.2.1
  generalize hb : enB p al N 0 d0 (-1, d0) = B at *
  have hne : B.1 ≠ -1 := by omega
  have hRB : Reach d0 p al N B.2 := by
    rcases hB with h | h
    · exact absurd h hne
    · exact h.2
  refine ⟨hRB, ?_⟩
  have cle : cntL B.2 p N ≤ N := fb_ct_le _ _
  have key : ∀ (i g : Nat) (w : qM) (hp : Nat → Int), i ≤ N → i < g → CAll w d0 → SP N p al w → (∀ j, i ≤ j → j ≤ N → gL w 73 j = Zl (hp j) ∧ 0 ≤ hp j ∧ hp j ≤ ((N - j : Nat) : Int) * 69000000) → hp N = 0 → (∀ j, i ≤ j → j < N → HB d0 p al j (hp j - hp (j + 1))) → FP m w → wp (fX0_layPicked_14 (fX0_layPicked_42 FU) g (Zi ((i : Int) - 1)) w) (fun y m' => y = Zi (cntL B.2 p N) ∧ CAll m' B.2 ∧ FP m m') := by
    intro i
    induction i with
    | zero =>
      intro g w hp hi hg hCw hS hL hN hH hF
      obtain ⟨g, rfl⟩ : ∃ g', g = g' + 1 := ⟨g - 1, by omega⟩
      have sp : SP N p al (sL w 68 9 (Zl (-1))) := ⟨by rw [gIL]; exact hS.1, fun j hj => by rw [gIL]; exact hS.2.1 j hj, fun s hs => by rw [gI_sL]; exact hS.2.2 s hs⟩
      obtain ⟨x1, m1, g1, ⟨t1, t2, t3, t4⟩, g2⟩ := try_s hP hp hN (fun j hj => hH j (by omega) hj) (fun j hj => by have := hL j (by omega) hj; omega) N 0 FG (sL w 68 9 (Zl (-1))) d0 (-1, d0) (by omega) (by rw [FG_d]; omega) rfl (Or.inl rfl) sp (fun j hj => by rw [gL_sL, if_neg (by omega)]; exact (hL j (by omega) hj).1) ⟨hCw.congr (fun c k hc => by rw [gI_sL]) (fun _ _ _ => rfl), fun j hj => by omega, by rw [gL_sL, if_pos ⟨rfl, rfl⟩], fun h => absurd rfl h⟩
      rw [hb] at t3 t4
      have t1' : CAll m1 d0 := t1
      have q1 : ∀ c k, ¬ (c = 58 ∧ 13 ≤ k ∧ k ≤ 16 ∨ c = 62 ∨ 64 ≤ c ∧ c ≤ 67 ∨ c = 71 ∨ c = 72) → gI m1 c k = gI w c k := fun c k hc => by rw [g2.1 c k hc, gI_sL]
      have F1 : FP m m1 := ⟨fun c k hc => (q1 c k (by omega)).trans (hF.1 c k hc), by rw [g2.2.2, gR_sL]; exact hF.2⟩
      have sp1 := sp.mono g2
      have fin : wp (fX0_layPicked_42 FU (Zi 0) (Zi 0) m1) (fun y m' => y = Zi (cntL B.2 p N) ∧ CAll m' B.2 ∧ FP m m') := by
        rw [show FU = (FU - N) + N by rw [FU_d]; omega]
        refine putAll hP _ N B.2 (Nat.le_refl _) hRB (FU - N) m1 t1' sp1.1 sp1.2.1 (t4 hne) fun m2 hC2 hF2 => ?_
        have q2 : ∀ c k, ¬ (c = 58 ∧ 13 ≤ k ∧ k ≤ 16 ∨ c = 62 ∨ 64 ≤ c ∧ c ≤ 67) → gI m2 c k = gI m1 c k := hF2.1
        obtain ⟨g', hg'⟩ : ∃ g', FU - N = g' + 1 := ⟨FU - N - 1, by rw [FU_d]; omega⟩
        refine wp_e (x := Zi (cntL B.2 p N)) (m := m2) ?_ ⟨rfl, hC2, fun c k hc => (q2 c k (by omega)).trans (F1.1 c k hc), hF2.2.2.trans F1.2⟩
        have h7' := (vI_of (q2 68 7 (by omega))).trans sp1.1
        rw [hg']
        simp (disch := omega) only [fX0_layPicked_42, qbI_s, qbL_s, qbV_s, qbR_s, qbR_n, qbN_s, qbN_n, qbIX_s, qbIX_n, qbVX_s, qbVX_n, cond_true, cond_false, cond_dec, jadd, jsub, jmul, jneg, li_0, li_1, li_2, li_3, li_4, li_5, li_6, li_7, li_8, li_9, li_10, li_14, li_15, li_16, li_19, li_20, li_24, li_30, li_31, li_32, li_39, li_40, li_48, li_57, li_59, li_60, li_63, li_65, li_80, li_81, li_90, li_97, li_99, li_100, li_122, li_126, li_127, li_150, li_160, li_200, li_225, li_255, li_400, li_799, li_800, li_999, li_2400, li_3239, li_3240, li_1048575, li_1431655765, li_858993459, li_252645135, eqb_j, ltb_j, leb_j, inb_j, ix_j, ix_n, nz_b, nz_0, nz_1, eqb_b, bnot, vI_ne, vI_eq, gIL, gLI, gIR, gRI, gLR, gRL, Int.reduceLT, Int.reduceLE, Int.reduceEq, Int.reduceAdd, Int.reduceSub, Int.reduceMul, Int.reduceNeg, Int.reduceToNat, Nat.reduceEqDiff, reduceIte, if_neg, if_pos, gI_ne, gIv 68, h7']
      have g1' : fX0_tryFrom FG (Zi 0) (sL w 68 9 (Zl (-1))) = some (x1, m1) := g1
      simp (disch := omega) only [fX0_layPicked_14, qbI_s, qbL_s, qbV_s, qbR_s, qbR_n, qbN_s, qbN_n, qbIX_s, qbIX_n, qbVX_s, qbVX_n, cond_true, cond_false, cond_dec, jadd, jsub, jmul, jneg, li_0, li_1, li_2, li_3, li_4, li_5, li_6, li_7, li_8, li_9, li_10, li_14, li_15, li_16, li_19, li_20, li_24, li_30, li_31, li_32, li_39, li_40, li_48, li_57, li_59, li_60, li_63, li_65, li_80, li_81, li_90, li_97, li_99, li_100, li_122, li_126, li_127, li_150, li_160, li_200, li_225, li_255, li_400, li_799, li_800, li_999, li_2400, li_3239, li_3240, li_1048575, li_1431655765, li_858993459, li_252645135, eqb_j, ltb_j, leb_j, inb_j, ix_j, ix_n, nz_b, nz_0, nz_1, eqb_b, bnot, vI_ne, vI_eq, gIL, gLI, gIR, gRI, gLR, gRL, Int.reduceLT, Int.reduceLE, Int.reduceEq, Int.reduceAdd, Int.reduceSub, Int.reduceMul, Int.reduceNeg, Int.reduceToNat, Nat.reduceEqDiff, reduceIte, if_neg, if_pos, gI_ne, show (-1 : Int64) = Zl (-1) from rfl, g1']
      exact fin
    | succ i ih =>
      intro g w hp hi hg hCw hS hL hN hH hF
      obtain ⟨g, rfl⟩ : ∃ g', g = g' + 1 := ⟨g - 1, by omega⟩
      obtain ⟨h, h1, h2⟩ := hope_s hP hCw hS i (by omega)
      have hLi := hL (i + 1) (by omega) hi
      have hLi1 : gL w 73 (((i : Int) + 1).toNat) = Zl (hp (i + 1)) := by rw [show ((i : Int) + 1).toNat = i + 1 by omega]; exact hLi.1
      have nx := ih g (sL w 73 i (Zl (hp (i + 1) + h))) (fun k => if k = i then h + hp (i + 1) else hp k) (by omega) (by omega) (hCw.congr (fun c k hc => by rw [gI_sL]) (fun _ _ _ => rfl)) ⟨by rw [gIL]; exact hS.1, fun j hj => by rw [gIL]; exact hS.2.1 j hj, fun s hs => by rw [gI_sL]; exact hS.2.2 s hs⟩ (fun j j1 j2 => by
        by_cases e : j = i
        · rw [if_pos e, gL_sL, if_pos ⟨rfl, e⟩]
          have := h2.1
          have := h2.2.1
          exact ⟨by rw [Int.add_comm], by omega, by omega⟩
        · rw [if_neg e, gL_sL, if_neg (fun z => e z.2)]
          exact hL j (by omega) j2) (by rw [if_neg (by omega)]; exact hN) (fun j j1 j2 => by
        by_cases e : j = i
        · rw [if_pos e, if_neg (by omega), e]
          rw [show h + hp (i + 1) - hp (i + 1) = h by omega]
          exact h2
        · rw [if_neg e, if_neg (by omega)]
          exact hH j (by omega) j2) ⟨fun c k hc => by rw [gI_sL]; exact hF.1 c k hc, by rw [gR_sL]; exact hF.2⟩
      rw [show ((i + 1 : Nat) : Int) - 1 = (i : Int) by omega]
      simp (disch := omega) only [fX0_layPicked_14, qbI_s, qbL_s, qbV_s, qbR_s, qbR_n, qbN_s, qbN_n, qbIX_s, qbIX_n, qbVX_s, qbVX_n, cond_true, cond_false, cond_dec, jadd, jsub, jmul, jneg, li_0, li_1, li_2, li_3, li_4, li_5, li_6, li_7, li_8, li_9, li_10, li_14, li_15, li_16, li_19, li_20, li_24, li_30, li_31, li_32, li_39, li_40, li_48, li_57, li_59, li_60, li_63, li_65, li_80, li_81, li_90, li_97, li_99, li_100, li_122, li_126, li_127, li_150, li_160, li_200, li_225, li_255, li_400, li_799, li_800, li_999, li_2400, li_3239, li_3240, li_1048575, li_1431655765, li_858993459, li_252645135, eqb_j, ltb_j, leb_j, inb_j, ix_j, ix_n, nz_b, nz_0, nz_1, eqb_b, bnot, vI_ne, vI_eq, gIL, gLI, gIR, gRI, gLR, gRL, Int.reduceLT, Int.reduceLE, Int.reduceEq, Int.reduceAdd, Int.reduceSub, Int.reduceMul, Int.reduceNeg, Int.reduceToNat, Nat.reduceEqDiff, reduceIte, if_neg, if_pos, gI_ne, ll_0, ll_1, ll_3, ll_5, ll_9, ll_10, ll_13, ll_14, ll_19, ll_20, ll_32, ll_60, ll_126, ll_799, ll_1024, ll_1048576, ll_67108864, Zladd, Zlsub, Zlmul, Zlneg, toL, lg_lt, lg_gt, lg_le, h1, hLi1]
      rw [show (i : Int) + -1 = (i : Int) - 1 by omega]
      exact nx
  have sp : SP N p al (sL (sI m 68 8 x) 73 N (Zl 0)) := ⟨by rw [gIL, vI_of (show gI (sI m 68 8 x) 68 7 = gI m 68 7 by rw [gI_eq, if_neg (by omega)])]; exact h7, fun j hj => by rw [gIL, vI_of (show gI (sI m 68 8 x) 69 j = gI m 69 j from gI_ne (by omega))]; exact h69 j hj, fun s hs => by rw [gI_sL, gI_eq, if_pos rfl]; exact hx s hs⟩
  have k0 := key N FU (sL (sI m 68 8 x) 73 N (Zl 0)) (fun _ => 0) (Nat.le_refl _) (by rw [FU_d]; omega) (hC.congr (fun c k hc => by rw [gI_sL]; exact gI_ne (by omega)) (fun _ _ _ => rfl)) sp (fun j j1 j2 => ⟨by rw [gL_sL, if_pos ⟨rfl, by omega⟩], by omega, by omega⟩) rfl (fun j j1 j2 => by omega) ⟨fun c k hc => by rw [gI_sL, gI_sI, if_neg (by omega)], by rw [gR_sL, gR_sI]⟩
  have h7s : vI (sI m 68 8 x) 68 7 = N := by rw [vI_of (show gI (sI m 68 8 x) 68 7 = gI m 68 7 by rw [gI_eq, if_neg (by omega)])]; exact h7
  rw [fX0_layPicked_d]
  simp (disch := omega) only [fX0_layPicked_0, qbI_s, qbL_s, qbV_s, qbR_s, qbR_n, qbN_s, qbN_n, qbIX_s, qbIX_n, qbVX_s, qbVX_n, cond_true, cond_false, cond_dec, jadd, jsub, jmul, jneg, li_0, li_1, li_2, li_3, li_4, li_5, li_6, li_7, li_8, li_9, li_10, li_14, li_15, li_16, li_19, li_20, li_24, li_30, li_31, li_32, li_39, li_40, li_48, li_57, li_59, li_60, li_63, li_65, li_80, li_81, li_90, li_97, li_99, li_100, li_122, li_126, li_127, li_150, li_160, li_200, li_225, li_255, li_400, li_799, li_800, li_999, li_2400, li_3239, li_3240, li_1048575, li_1431655765, li_858993459, li_252645135, eqb_j, ltb_j, leb_j, inb_j, ix_j, ix_n, nz_b, nz_0, nz_1, eqb_b, bnot, vI_ne, vI_eq, gIL, gLI, gIR, gRI, gLR, gRL, Int.reduceLT, Int.reduceLE, Int.reduceEq, Int.reduceAdd, Int.reduceSub, Int.reduceMul, Int.reduceNeg, Int.reduceToNat, Nat.reduceEqDiff, reduceIte, if_neg, if_pos, gI_ne, gIv 68, h7s, show ((0 : Int64)) = Zl 0 from rfl]
  exact k0
