/-! the class's way through the slots of a few asks -/
def trP (c k : Nat) : Prop := plP c k ∨ c = 71 ∨ c = 72
def FL (m m' : qM) : Prop := (∀ c k, ¬ (c = 58 ∧ 13 ≤ k ∧ k ≤ 16 ∨ c = 62 ∨ 64 ≤ c ∧ c ≤ 67 ∨ c = 71 ∨ c = 72) → gI m' c k = gI m c k) ∧ (∀ c k, ¬ (c = 68 ∧ k = 9) → gL m' c k = gL m c k) ∧ gR m' = gR m
theorem FL.rf (m : qM) : FL m m := ⟨fun _ _ _ => rfl, fun _ _ _ => rfl, rfl⟩
theorem FL.tr {a b c : qM} (h : FL a b) (g : FL b c) : FL a c := ⟨fun c' k hc => (g.1 c' k hc).trans (h.1 c' k hc), fun c' k hc => (g.2.1 c' k hc).trans (h.2.1 c' k hc), g.2.2.trans h.2.2⟩
theorem FL.of {a b : qM} (h : Fr plP a b) : FL a b := ⟨fun c k hc => h.1 c k (by unfold plP; omega), fun c k _ => by rw [h.2.1], h.2.2⟩
theorem FL.w71 (m : qM) (k : Nat) (x : Int32) : FL m (sI m 71 k x) := ⟨fun c' k' hc => gI_ne (by omega), fun c' k' _ => by rw [gL_sI], by rw [gR_sI]⟩
theorem SP.mono {N : Nat} {p : Nat → Nat} {al : Nat → Bool} {m m' : qM} (h : SP N p al m) (f : FL m m') : SP N p al m' :=
  ⟨(vI_of (f.1 68 7 (by omega))).trans h.1, fun j hj => (vI_of (f.1 69 j (by omega))).trans (h.2.1 j hj), fun s hs => by rw [f.1 68 8 (by omega)]; exact h.2.2 s hs⟩
def slN (x : Int) : Int := if x = -1 then 20 else x
def TS (N : Nat) (p : Nat → Nat) (d : Dt) (b : Bs) (i : Nat) (m : qM) : Prop := CAll m d ∧ (∀ j, j < i → vI m 71 j = slN (d 125 (p j))) ∧ gL m 68 9 = Zl b.1 ∧ (b.1 ≠ -1 → ∀ j, j < N → vI m 72 j = slN (b.2 125 (p j)))
theorem LeB_hope {d0 : Dt} {p : Nat → Nat} {al : Nat → Bool} {N : Nat} (hP : Pk d0 p N) (hp : Nat → Int) (hN : hp N = 0) (hH : ∀ j, j < N → HB d0 p al j (hp j - hp (j + 1))) : ∀ (r i : Nat) (d : Dt) (W : Int), i + r = N → Reach d0 p al i d → wD d + hp i ≤ W → LeB p al r i d W := by
  intro r
  induction r with
  | zero =>
    intro i d W hi h hw
    have hi' : i = N := by omega
    rw [hi', hN] at hw
    rw [LeB]
    omega
  | succ r ih =>
    intro i d W hi h hw
    obtain ⟨h0, h1, h2⟩ := hH i (by omega)
    rw [LeB]
    refine ⟨ih (i + 1) d W (by omega) h.nx (by omega), fun s g1 g2 g3 => ih (i + 1) _ W (by omega) (h.up g1 g2 g3) ?_⟩
    have := h2 d h s g1 g2 g3
    omega
theorem bOK.r {d0 : Dt} {p : Nat → Nat} {al : Nat → Bool} {N : Nat} (hP : Pk d0 p N) {b : Bs} (h : bOK d0 p al N b) : -1 ≤ b.1 ∧ b.1 ≤ 3000000000 := by
  rcases h with h | ⟨h, h2⟩
  · omega
  · have := wD_r b.2 (h2.f hP (Nat.le_refl _)).1
    omega
theorem try_s {d0 : Dt} {p : Nat → Nat} {al : Nat → Bool} {N : Nat} (hP : Pk d0 p N) (hp : Nat → Int) (hN : hp N = 0) (hH : ∀ j, j < N → HB d0 p al j (hp j - hp (j + 1))) (hpr : ∀ j, j ≤ N → 0 ≤ hp j ∧ hp j ≤ 300000000) : ∀ (r i n : Nat) (m : qM) (d : Dt) (b : Bs), i + r = N → r < n → Reach d0 p al i d → bOK d0 p al N b → SP N p al m → (∀ j, j ≤ N → gL m 73 j = Zl (hp j)) → TS N p d b i m → wp (GX0_tryFrom n [.ref 68, .int (Zi i)] m) (fun _ m' => TS N p d (enB p al r i d b) i m' ∧ FL m m') := by
  intro r
  induction r with
  | zero =>
    intro i n m d b hi hn hR hb hS hL hT
    obtain ⟨n, rfl⟩ : ∃ n', n = n' + 1 := ⟨n - 1, by omega⟩
    have n4 := hP.1
    have hi' : i = N := by omega
    subst hi'
    obtain ⟨t1, t2, t3, t4⟩ := hT
    have wr := wD_r d (hR.f hP (Nat.le_refl _)).1
    have br := hb.r hP
    have hw := worth_s t1
    have hL' := hL i (Nat.le_refl _)
    rw [hN] at hL'
    show wp (fX0_tryFrom_0 (GX0_tryFrom n) (Zi i) m) _
    by_cases hc : b.1 < wD d
    · refine wp_e (x := ()) (m := sC (sL m 68 9 (Zl (wD d))) 71 72 4) ?_ ⟨⟨t1.congr (fun c k hc => by rw [gI_sC, if_neg (by omega), gI_sL]) (fun _ _ _ => rfl), fun j hj => ?_, ?_, fun _ j hj => ?_⟩, fun c k hc => ?_, fun c k hc => ?_, ?_⟩
      · simp (disch := omega) only [fX0_tryFrom_0, hw, qbI_s, qbL_s, qbV_s, qbR_s, qbR_n, qbN_s, qbN_n, qbIX_s, qbIX_n, qbVX_s, qbVX_n, cond_true, cond_false, cond_dec, jadd, jsub, jmul, jneg, li_0, li_1, li_2, li_3, li_4, li_5, li_6, li_7, li_8, li_9, li_10, li_14, li_15, li_16, li_19, li_20, li_24, li_30, li_31, li_32, li_39, li_40, li_48, li_57, li_59, li_60, li_63, li_65, li_80, li_81, li_90, li_97, li_99, li_100, li_122, li_126, li_127, li_150, li_160, li_200, li_225, li_255, li_400, li_799, li_800, li_999, li_2400, li_3239, li_3240, li_1048575, li_1431655765, li_858993459, li_252645135, eqb_j, ltb_j, leb_j, inb_j, ix_j, ix_n, nz_b, nz_0, nz_1, eqb_b, bnot, vI_ne, vI_eq, gIL, gLI, gIR, gRI, gLR, gRL, Int.reduceLT, Int.reduceLE, Int.reduceEq, Int.reduceAdd, Int.reduceSub, Int.reduceMul, Int.reduceNeg, Int.reduceToNat, Nat.reduceEqDiff, reduceIte, if_neg, if_pos, gI_ne, ll_0, ll_1, ll_3, ll_5, ll_9, ll_10, ll_13, ll_14, ll_19, ll_20, ll_32, ll_60, ll_126, ll_799, ll_1024, ll_1048576, ll_67108864, Zladd, Zlsub, Zlmul, Zlneg, toL, lg_lt, lg_gt, lg_le, hL', t3, gIv 68, hS.1, hc, show Nat.ble 4 4 = true from rfl, ix_n, show ix (Zi 4) = 4 from (ix_j (by omega))]
      · rw [vI_of (show gI (sC (sL m 68 9 (Zl (wD d))) 71 72 4) 71 j = gI m 71 j by rw [gI_sC, if_neg (by omega), gI_sL])]
        exact t2 j hj
      · rw [gL_sC, gL_sL, if_pos ⟨rfl, rfl⟩, enB, leafB, if_pos hc]
      · rw [vI_of (show gI (sC (sL m 68 9 (Zl (wD d))) 71 72 4) 72 j = gI m 71 j by rw [gI_sC, if_pos ⟨rfl, by omega⟩, gI_sL]), enB, leafB, if_pos hc]
        exact t2 j hj
      · rw [gI_sC, if_neg (by omega), gI_sL]
      · rw [gL_sC, gL_sL, if_neg hc]
      · rw [gR_sC, gR_sL]
    · refine wp_e (x := ()) (m := m) ?_ ⟨?_, FL.rf m⟩
      · simp (disch := omega) only [fX0_tryFrom_0, hw, qbI_s, qbL_s, qbV_s, qbR_s, qbR_n, qbN_s, qbN_n, qbIX_s, qbIX_n, qbVX_s, qbVX_n, cond_true, cond_false, cond_dec, jadd, jsub, jmul, jneg, li_0, li_1, li_2, li_3, li_4, li_5, li_6, li_7, li_8, li_9, li_10, li_14, li_15, li_16, li_19, li_20, li_24, li_30, li_31, li_32, li_39, li_40, li_48, li_57, li_59, li_60, li_63, li_65, li_80, li_81, li_90, li_97, li_99, li_100, li_122, li_126, li_127, li_150, li_160, li_200, li_225, li_255, li_400, li_799, li_800, li_999, li_2400, li_3239, li_3240, li_1048575, li_1431655765, li_858993459, li_252645135, eqb_j, ltb_j, leb_j, inb_j, ix_j, ix_n, nz_b, nz_0, nz_1, eqb_b, bnot, vI_ne, vI_eq, gIL, gLI, gIR, gRI, gLR, gRL, Int.reduceLT, Int.reduceLE, Int.reduceEq, Int.reduceAdd, Int.reduceSub, Int.reduceMul, Int.reduceNeg, Int.reduceToNat, Nat.reduceEqDiff, reduceIte, if_neg, if_pos, gI_ne, ll_0, ll_1, ll_3, ll_5, ll_9, ll_10, ll_13, ll_14, ll_19, ll_20, ll_32, ll_60, ll_126, ll_799, ll_1024, ll_1048576, ll_67108864, Zladd, Zlsub, Zlmul, Zlneg, toL, lg_lt, lg_gt, lg_le, hL', t3]
      · rw [enB, leafB, if_neg hc]
        exact ⟨t1, t2, t3, t4⟩
  | succ r ih =>
    intro i n m d b hi hn hR hb hS hL hT
    obtain ⟨n, rfl⟩ : ∃ n', n = n' + 1 := ⟨n - 1, by omega⟩
    have n4 := hP.1
    have hf := hR.f hP (by omega)
    have wr := wD_r d hf.1
    have br := hb.r hP
    have hL' := hL i (by omega)
    have hpi := hpr i (by omega)
    have un := hR.un hP (show i < N by omega)
    show wp (fX0_tryFrom_0 (GX0_tryFrom n) (Zi i) m) _
    have hT' := hT
    obtain ⟨t1, t2, t3, t4⟩ := hT'
    have hw := worth_s t1
    by_cases hc : b.1 < wD d + hp i
    · obtain ⟨x, o1, o2, o3⟩ := open_s m d t1 (p i) un.2 un.1
      have key : ∀ (r2 s g : Nat) (m2 : qM) (b2 : Bs), s + r2 = 20 → r2 < g → bOK d0 p al N b2 → TS N p d b2 i m2 → FL m m2 → wp (fX0_tryFrom_46 (GX0_tryFrom n) g (Zi i) (Zi (p i)) (x &&& gI m 68 8) (Zi s) m2) (fun _ m' => TS N p d (enB p al r (i + 1) d (slE (enB p al r (i + 1)) al d (p i) r2 s b2)) i m' ∧ FL m m') := by
        intro r2
        induction r2 with
        | zero =>
          intro s g m2 b2 hs hg hb2 hT2 hF
          obtain ⟨g, rfl⟩ : ∃ g', g = g' + 1 := ⟨g - 1, by omega⟩
          obtain ⟨u1, u2, u3, u4⟩ := hT2
          have F3 := hF.tr (FL.w71 m2 i (Zi 20))
          obtain ⟨x3, m3, g1, ⟨v1, v2, v3, v4⟩, g2⟩ := ih (i + 1) n (sI m2 71 i (Zi 20)) d b2 (by omega) (by omega) hR.nx hb2 (hS.mono F3) (fun j hj => by rw [F3.2.1 73 j (by omega)]; exact hL j hj) ⟨u1.congr (fun c k hc => gI_ne (by omega)) (fun _ _ _ => rfl), fun j hj => by
            by_cases e : j = i
            · rw [e, un.1]
              simp (disch := omega) only [qbI_s, qbL_s, qbV_s, qbR_s, qbR_n, qbN_s, qbN_n, qbIX_s, qbIX_n, qbVX_s, qbVX_n, cond_true, cond_false, cond_dec, jadd, jsub, jmul, jneg, li_0, li_1, li_2, li_3, li_4, li_5, li_6, li_7, li_8, li_9, li_10, li_14, li_15, li_16, li_19, li_20, li_24, li_30, li_31, li_32, li_39, li_40, li_48, li_57, li_59, li_60, li_63, li_65, li_80, li_81, li_90, li_97, li_99, li_100, li_122, li_126, li_127, li_150, li_160, li_200, li_225, li_255, li_400, li_799, li_800, li_999, li_2400, li_3239, li_3240, li_1048575, li_1431655765, li_858993459, li_252645135, eqb_j, ltb_j, leb_j, inb_j, ix_j, ix_n, nz_b, nz_0, nz_1, eqb_b, bnot, vI_ne, vI_eq, gIL, gLI, gIR, gRI, gLR, gRL, Int.reduceLT, Int.reduceLE, Int.reduceEq, Int.reduceAdd, Int.reduceSub, Int.reduceMul, Int.reduceNeg, Int.reduceToNat, Nat.reduceEqDiff, reduceIte, if_neg, if_pos, gI_ne]
              rfl
            · rw [vI_of (show gI (sI m2 71 i (Zi 20)) 71 j = gI m2 71 j by rw [gI_eq, if_neg e])]
              exact u2 j (by omega), by rw [gL_sI]; exact u3, fun h j hj => by rw [vI_of (show gI (sI m2 71 i (Zi 20)) 72 j = gI m2 72 j from gI_ne (by omega))]; exact u4 h j hj⟩
          refine wp_e (x := ()) (m := m3) ?_ ⟨⟨v1, fun j hj => v2 j (by omega), v3, v4⟩, F3.tr g2⟩
          have g1' : GX0_tryFrom n [.ref 68, .int (Zi ((i : Int) + 1))] (sI m2 71 i (Zi 20)) = some (x3, m3) := g1
          simp (disch := omega) only [fX0_tryFrom_46, qbI_s, qbL_s, qbV_s, qbR_s, qbR_n, qbN_s, qbN_n, qbIX_s, qbIX_n, qbVX_s, qbVX_n, cond_true, cond_false, cond_dec, jadd, jsub, jmul, jneg, li_0, li_1, li_2, li_3, li_4, li_5, li_6, li_7, li_8, li_9, li_10, li_14, li_15, li_16, li_19, li_20, li_24, li_30, li_31, li_32, li_39, li_40, li_48, li_57, li_59, li_60, li_63, li_65, li_80, li_81, li_90, li_97, li_99, li_100, li_122, li_126, li_127, li_150, li_160, li_200, li_225, li_255, li_400, li_799, li_800, li_999, li_2400, li_3239, li_3240, li_1048575, li_1431655765, li_858993459, li_252645135, eqb_j, ltb_j, leb_j, inb_j, ix_j, ix_n, nz_b, nz_0, nz_1, eqb_b, bnot, vI_ne, vI_eq, gIL, gLI, gIR, gRI, gLR, gRL, Int.reduceLT, Int.reduceLE, Int.reduceEq, Int.reduceAdd, Int.reduceSub, Int.reduceMul, Int.reduceNeg, Int.reduceToNat, Nat.reduceEqDiff, reduceIte, if_neg, if_pos, gI_ne, g1']
        | succ r2 ih2 =>
          intro s g m2 b2 hs hg hb2 hT2 hF
          obtain ⟨g, rfl⟩ : ∃ g', g = g' + 1 := ⟨g - 1, by omega⟩
          have hh := has_s (x &&& gI m 68 8) s (by omega) m2
          rw [b_and, o2 s (by omega), hS.2.2 s (by omega)] at hh
          rw [slE]
          cases hbit : (mbV d (p i) s && al s)
          · rw [hbit] at hh
            have := ih2 (s + 1) g m2 b2 (by omega) (by omega) hb2 hT2 hF
            simp (disch := omega) only [fX0_tryFrom_46, fX0_tryFrom_73, qbI_s, qbL_s, qbV_s, qbR_s, qbR_n, qbN_s, qbN_n, qbIX_s, qbIX_n, qbVX_s, qbVX_n, cond_true, cond_false, cond_dec, jadd, jsub, jmul, jneg, li_0, li_1, li_2, li_3, li_4, li_5, li_6, li_7, li_8, li_9, li_10, li_14, li_15, li_16, li_19, li_20, li_24, li_30, li_31, li_32, li_39, li_40, li_48, li_57, li_59, li_60, li_63, li_65, li_80, li_81, li_90, li_97, li_99, li_100, li_122, li_126, li_127, li_150, li_160, li_200, li_225, li_255, li_400, li_799, li_800, li_999, li_2400, li_3239, li_3240, li_1048575, li_1431655765, li_858993459, li_252645135, eqb_j, ltb_j, leb_j, inb_j, ix_j, ix_n, nz_b, nz_0, nz_1, eqb_b, bnot, vI_ne, vI_eq, gIL, gLI, gIR, gRI, gLR, gRL, Int.reduceLT, Int.reduceLE, Int.reduceEq, Int.reduceAdd, Int.reduceSub, Int.reduceMul, Int.reduceNeg, Int.reduceToNat, Nat.reduceEqDiff, reduceIte, if_neg, if_pos, gI_ne, hh, show bI false = 0 from rfl]
            exact this
          · rw [hbit] at hh
            rw [Bool.and_eq_true] at hbit
            rw [if_pos rfl]
            obtain ⟨u1, u2, u3, u4⟩ := hT2
            have F3 := hF.tr (FL.w71 m2 i (Zi s))
            have c3 : CAll (sI m2 71 i (Zi s)) d := u1.congr (fun c k hc => gI_ne (by omega)) (fun _ _ _ => rfl)
            obtain ⟨x4, m4, p1, p2, p3⟩ := put_s _ d c3 (p i) s un.2 un.1 (by omega) (NC.of_mb hbit.1)
            have F4 := F3.tr (FL.of p3)
            have q4 : ∀ c k, ¬ (c = 58 ∧ 13 ≤ k ∧ k ≤ 16 ∨ c = 62 ∨ 64 ≤ c ∧ c ≤ 67) → gI m4 c k = gI (sI m2 71 i (Zi s)) c k := p3.1
            have R4 := hR.up (show s < 20 by omega) hbit.1 hbit.2
            have dj : ∀ j, j < i → (upS d (p i) s) 125 (p j) = d 125 (p j) := fun j hj => by
              rw [upS_eq, if_neg (fun e => by have := hP.2.2.2 j i (by omega) (by omega) e; omega)]
            obtain ⟨x5, m5, g1, ⟨v1, v2, v3, v4⟩, g2⟩ := ih (i + 1) n m4 (upS d (p i) s) b2 (by omega) (by omega) R4 hb2 (hS.mono F4) (fun j hj => by rw [F4.2.1 73 j (by omega)]; exact hL j hj) ⟨p2, fun j hj => by
              rw [vI_of (q4 71 j (by omega))]
              by_cases e : j = i
              · rw [e, upS_eq, if_pos rfl, slN, if_neg (by omega)]
                simp (disch := omega) only [qbI_s, qbL_s, qbV_s, qbR_s, qbR_n, qbN_s, qbN_n, qbIX_s, qbIX_n, qbVX_s, qbVX_n, cond_true, cond_false, cond_dec, jadd, jsub, jmul, jneg, li_0, li_1, li_2, li_3, li_4, li_5, li_6, li_7, li_8, li_9, li_10, li_14, li_15, li_16, li_19, li_20, li_24, li_30, li_31, li_32, li_39, li_40, li_48, li_57, li_59, li_60, li_63, li_65, li_80, li_81, li_90, li_97, li_99, li_100, li_122, li_126, li_127, li_150, li_160, li_200, li_225, li_255, li_400, li_799, li_800, li_999, li_2400, li_3239, li_3240, li_1048575, li_1431655765, li_858993459, li_252645135, eqb_j, ltb_j, leb_j, inb_j, ix_j, ix_n, nz_b, nz_0, nz_1, eqb_b, bnot, vI_ne, vI_eq, gIL, gLI, gIR, gRI, gLR, gRL, Int.reduceLT, Int.reduceLE, Int.reduceEq, Int.reduceAdd, Int.reduceSub, Int.reduceMul, Int.reduceNeg, Int.reduceToNat, Nat.reduceEqDiff, reduceIte, if_neg, if_pos, gI_ne]
              · rw [vI_of (show gI (sI m2 71 i (Zi s)) 71 j = gI m2 71 j by rw [gI_eq, if_neg e]), dj j (by omega)]
                exact u2 j (by omega), by rw [p3.2.1, gL_sI]; exact u3, fun h j hj => by rw [vI_of ((q4 72 j (by omega)).trans (gI_ne (by omega)))]; exact u4 h j hj⟩
            obtain ⟨y, m6, w1, w2, w3, w4⟩ := take_s m5 _ v1 (p i) s (by rw [upS_ne _ _ _ (by omega)]; exact un.2) (by rw [upS_eq, if_pos rfl]) (by omega)
            have hdd : upS (upS d (p i) s) (p i) (-1) = d := by rw [upS_up, ← un.1, upS_self]
            rw [hdd] at w3
            have F6 := (F4.tr g2).tr (FL.of w4)
            have q6 : ∀ c k, ¬ (c = 58 ∧ 13 ≤ k ∧ k ≤ 16 ∨ c = 62 ∨ 64 ≤ c ∧ c ≤ 67) → gI m6 c k = gI m5 c k := w4.1
            have nx := ih2 (s + 1) g m6 (enB p al r (i + 1) (upS d (p i) s) b2) (by omega) (by omega) (enB_ok r (i + 1) _ _ (by omega) R4 hb2) ⟨w3, fun j hj => by
              rw [vI_of (q6 71 j (by omega)), v2 j (by omega), dj j hj], by rw [w4.2.1]; exact v3, fun h j hj => by rw [vI_of (q6 72 j (by omega))]; exact v4 h j hj⟩ F6
            have hpl := (hP.2.2.1 i (by omega)).1
            have h40 := hP.2.1.2.2.2.2.2.1
            have g1' : GX0_tryFrom n [.ref 68, .int (Zi ((i : Int) + 1))] m4 = some (x5, m5) := g1
            simp (disch := omega) only [fX0_tryFrom_46, fX0_tryFrom_73, qbI_s, qbL_s, qbV_s, qbR_s, qbR_n, qbN_s, qbN_n, qbIX_s, qbIX_n, qbVX_s, qbVX_n, cond_true, cond_false, cond_dec, jadd, jsub, jmul, jneg, li_0, li_1, li_2, li_3, li_4, li_5, li_6, li_7, li_8, li_9, li_10, li_14, li_15, li_16, li_19, li_20, li_24, li_30, li_31, li_32, li_39, li_40, li_48, li_57, li_59, li_60, li_63, li_65, li_80, li_81, li_90, li_97, li_99, li_100, li_122, li_126, li_127, li_150, li_160, li_200, li_225, li_255, li_400, li_799, li_800, li_999, li_2400, li_3239, li_3240, li_1048575, li_1431655765, li_858993459, li_252645135, eqb_j, ltb_j, leb_j, inb_j, ix_j, ix_n, nz_b, nz_0, nz_1, eqb_b, bnot, vI_ne, vI_eq, gIL, gLI, gIR, gRI, gLR, gRL, Int.reduceLT, Int.reduceLE, Int.reduceEq, Int.reduceAdd, Int.reduceSub, Int.reduceMul, Int.reduceNeg, Int.reduceToNat, Nat.reduceEqDiff, reduceIte, if_neg, if_pos, gI_ne, hh, show bI true = 1 from rfl, p1, g1', w1]
            exact nx
      have k0 := key 20 0 FU m b (by omega) (by rw [FU_d]; omega) hb hT (FL.rf m)
      rw [gIv 68] at k0
      rw [enB]
      simp (disch := omega) only [fX0_tryFrom_0, hw, qbI_s, qbL_s, qbV_s, qbR_s, qbR_n, qbN_s, qbN_n, qbIX_s, qbIX_n, qbVX_s, qbVX_n, cond_true, cond_false, cond_dec, jadd, jsub, jmul, jneg, li_0, li_1, li_2, li_3, li_4, li_5, li_6, li_7, li_8, li_9, li_10, li_14, li_15, li_16, li_19, li_20, li_24, li_30, li_31, li_32, li_39, li_40, li_48, li_57, li_59, li_60, li_63, li_65, li_80, li_81, li_90, li_97, li_99, li_100, li_122, li_126, li_127, li_150, li_160, li_200, li_225, li_255, li_400, li_799, li_800, li_999, li_2400, li_3239, li_3240, li_1048575, li_1431655765, li_858993459, li_252645135, eqb_j, ltb_j, leb_j, inb_j, ix_j, ix_n, nz_b, nz_0, nz_1, eqb_b, bnot, vI_ne, vI_eq, gIL, gLI, gIR, gRI, gLR, gRL, Int.reduceLT, Int.reduceLE, Int.reduceEq, Int.reduceAdd, Int.reduceSub, Int.reduceMul, Int.reduceNeg, Int.reduceToNat, Nat.reduceEqDiff, reduceIte, if_neg, if_pos, gI_ne, ll_0, ll_1, ll_3, ll_5, ll_9, ll_10, ll_13, ll_14, ll_19, ll_20, ll_32, ll_60, ll_126, ll_799, ll_1024, ll_1048576, ll_67108864, Zladd, Zlsub, Zlmul, Zlneg, toL, lg_lt, lg_gt, lg_le, hL', t3, gIv 68, gIv 69, hS.1, hS.2.1, hc, o1]
      exact k0
    · refine wp_e (x := ()) (m := m) ?_ ⟨?_, FL.rf m⟩
      · simp (disch := omega) only [fX0_tryFrom_0, hw, qbI_s, qbL_s, qbV_s, qbR_s, qbR_n, qbN_s, qbN_n, qbIX_s, qbIX_n, qbVX_s, qbVX_n, cond_true, cond_false, cond_dec, jadd, jsub, jmul, jneg, li_0, li_1, li_2, li_3, li_4, li_5, li_6, li_7, li_8, li_9, li_10, li_14, li_15, li_16, li_19, li_20, li_24, li_30, li_31, li_32, li_39, li_40, li_48, li_57, li_59, li_60, li_63, li_65, li_80, li_81, li_90, li_97, li_99, li_100, li_122, li_126, li_127, li_150, li_160, li_200, li_225, li_255, li_400, li_799, li_800, li_999, li_2400, li_3239, li_3240, li_1048575, li_1431655765, li_858993459, li_252645135, eqb_j, ltb_j, leb_j, inb_j, ix_j, ix_n, nz_b, nz_0, nz_1, eqb_b, bnot, vI_ne, vI_eq, gIL, gLI, gIR, gRI, gLR, gRL, Int.reduceLT, Int.reduceLE, Int.reduceEq, Int.reduceAdd, Int.reduceSub, Int.reduceMul, Int.reduceNeg, Int.reduceToNat, Nat.reduceEqDiff, reduceIte, if_neg, if_pos, gI_ne, ll_0, ll_1, ll_3, ll_5, ll_9, ll_10, ll_13, ll_14, ll_19, ll_20, ll_32, ll_60, ll_126, ll_799, ll_1024, ll_1048576, ll_67108864, Zladd, Zlsub, Zlmul, Zlneg, toL, lg_lt, lg_gt, lg_le, hL', t3]
      · rw [enB_skip p al (r + 1) i d b (LeB_hope hP hp hN hH (r + 1) i d b.1 (by omega) hR (by omega))]
        exact hT
