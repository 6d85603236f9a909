/-! mend: those who cannot come are taken out, and laid anew -/
theorem R0.mend {m m2 : qM} (hR : R0 m) (hb : vI m 98 33 = 1) (q : ∀ c k, ¬ (c = 58 ∧ 13 ≤ k ∧ k ≤ 16 ∨ c = 62 ∨ 64 ≤ c ∧ c ≤ 73 ∨ c = 83 ∨ c = 98 ∧ 43 ≤ k ∧ k ≤ 49 ∨ c = 98 ∧ k = 70 ∨ c = 125 ∨ 127 ≤ c ∧ c ≤ 131 ∨ 139 ≤ c ∧ c ≤ 150) → gI m2 c k = gI m c k) (g : gR m2 = gR m) (hC : CAll m2 (vI m2)) : R0 m2 := by
  obtain ⟨⟨hT, hRd, hRu, hFo, hHa⟩, ⟨hPt, hPf, hAp, hWk⟩, ⟨hAs, hPa, hCl, hDi, hBi, hCn⟩, ⟨hTe, hBe, hNo, hPo⟩⟩ := hR
  obtain ⟨h1, h2, h3, h4, h5, h6, h7, h8, h9, h10, h11⟩ := hC
  have e33 : vI m2 98 33 = 1 := by rw [vI_of (q 98 33 (by omega)), hb]
  have hBe' : RBeg m2 := ⟨by rw [vI_of (q 0 10 (by omega)), vI_of (q 98 33 (by omega))]; exact hBe.1, Or.inr e33, fun z => by omega⟩
  exact ⟨⟨hT.mono (fun c k hc => q c k (by omega)), hRd.mono (fun c k hc => q c k (by omega)), (h1), hFo.mono (fun c k hc => q c k (by omega)), hHa.mono (fun c k hc => q c k (by omega))⟩, ⟨(h2), (h3), (h4), (h5)⟩, ⟨(h6), (h7), (h8), (h9), (h10), (h11)⟩, ⟨hTe.mono (fun c k hc => q c k (by omega)), (hBe'), hNo.mono (fun c k hc => q c k (by omega)), hPo.mono (fun c k hc => q c k (by omega)) g⟩⟩
theorem go2_s {m v : qM} (h : RAll m) (K : Nat) (hK8 : K ≤ 80) (hd : vI m 83 K ≠ 0) (u : Int) (hu : -1 ≤ u ∧ u ≤ 799) (h1 : ∀ k, k < K → vI m 134 k ≤ u) (h2 : vI m 98 52 = K ∨ u < vI m 134 K) (q : ∀ c k, 98 ≤ c → c ≤ 138 → gI v c k = gI m c k) : wp (fX13_goThrough (Zi u) v) (fun _ v' => Fr (fun c k => DynF c k ∨ c = 98 ∧ k = 70) v v' ∧ ∀ a : Nat, (a : Int) < vI m 98 32 → vI v' 149 a = (if vI m 125 a ≠ -1 ∧ rwS m K a = -1 then 1 else 0)) := by
  obtain ⟨hR, hE⟩ := h
  obtain ⟨k1, k2⟩ := hE K (by omega) hd
  obtain ⟨x, v', e, hF, hr⟩ := k2.2 v u (VD.of hR.2.2.2.1 K u hu k1 h1 h2 (fun c k hc => q c k (by unfold dE at hc; omega) (by unfold dE at hc; omega)))
  exact ⟨x, v', e, hF, fun a ha => (hr a ha).2.1⟩
def dnS (d : Dt) (p : Nat → Nat) : Nat → Dt
  | 0 => d
  | j + 1 => upS (dnS d p j) (p j) (-1)
theorem dnS_ne (d : Dt) (p : Nat → Nat) {c : Nat} (k : Nat) (hc : ¬ c = 125) : ∀ j, dnS d p j c k = d c k
  | 0 => rfl
  | j + 1 => by rw [dnS, upS_ne _ _ _ hc, dnS_ne d p k hc j]
theorem dnS_ge (d : Dt) (p : Nat → Nat) (k : Nat) : ∀ j, (∀ i, i < j → k ≠ p i) → dnS d p j 125 k = d 125 k
  | 0, _ => rfl
  | j + 1, h => by rw [dnS, upS_eq, if_neg (h j (by omega)), dnS_ge d p k j (fun i hi => h i (by omega))]
theorem dnS_lt (d : Dt) (p : Nat → Nat) (k : Nat) : ∀ j, (∃ i, i < j ∧ k = p i) → dnS d p j 125 k = -1
  | 0, ⟨i, h, _⟩ => absurd h (Nat.not_lt_zero i)
  | j + 1, ⟨i, h1, h2⟩ => by
    rw [dnS, upS_eq]
    by_cases e : k = p j
    · rw [if_pos e]
    · rw [if_neg e]
      refine dnS_lt d p k j ⟨i, ?_, h2⟩
      have : i ≠ j := fun z => e (by rw [h2, z])
      omega
theorem dnS_ok (d : Dt) (p : Nat → Nat) (hD : DOk d) : ∀ j, DOk (dnS d p j)
  | 0 => hD
  | j + 1 => (dnS_ok d p hD j).up _ _ (by omega)
/-- picked, and laid -/
def Pm (d0 : Dt) (p : Nat → Nat) (N : Nat) : Prop := N ≤ 4 ∧ DOk d0 ∧ (∀ j, j < N → (p j : Int) < d0 98 32 ∧ d0 125 (p j) ≠ -1) ∧ ∀ i j, i < N → j < N → p i = p j → i = j
theorem Pm.pk {d0 : Dt} {p : Nat → Nat} {N : Nat} (h : Pm d0 p N) : Pk (dnS d0 p N) p N := ⟨h.1, dnS_ok d0 p h.2.1 N, fun j hj => ⟨by rw [dnS_ne d0 p 32 (by omega)]; exact (h.2.2.1 j hj).1, dnS_lt d0 p (p j) N ⟨j, hj, rfl⟩⟩, h.2.2.2⟩
theorem Pm.of {d0 : Dt} (hD : DOk d0) (ms : Nat → Bool) (n : Nat) (hn : (n : Int) ≤ d0 98 32) (h4 : fb_ct ms n ≤ 4) (hu : ∀ i, i < n → ms i = true → d0 125 i ≠ -1) : Pm d0 (kth ms n) (fb_ct ms n) :=
  ⟨h4, hD, fun j hj => by
    have h := kth_s hj
    exact ⟨by omega, hu _ h.1 h.2.1⟩, fun i j hi hj e => by
    have h1 := kth_s hi
    have h2 := kth_s hj
    rw [← h1.2.2, ← h2.2.2, e]⟩
noncomputable def chL (d0 bd : Dt) (p : Nat → Nat) : Nat → Nat := fb_ct (fun j => decide (bd 125 (p j) ≠ d0 125 (p j)))
theorem layAnew_s {d0 : Dt} {p : Nat → Nat} {al : Nat → Bool} {N : Nat} (hP : Pm d0 p N) (m : qM) (hC : CAll m d0) (h7 : vI m 68 7 = N) (h69 : ∀ j, j < N → vI m 69 j = p j) (x : Int32) (hx : ∀ s, s < 20 → bt x s = al s) : wp (fX0_layPickedAnew x m) (fun y m' => y = Zi (chL d0 (enB p al N 0 (dnS d0 p N) (-1, dnS d0 p N)).2 p N) ∧ CAll m' (enB p al N 0 (dnS d0 p N) (-1, dnS d0 p N)).2 ∧ (∀ c k, ¬ (c = 58 ∧ 13 ≤ k ∧ k ≤ 16 ∨ c = 62 ∨ 64 ≤ c ∧ c ≤ 73) → gI m' c k = gI m c k) ∧ gR m' = gR m) := by
  have n4 := hP.1
  have hD := hP.2.1
  have h40 := hD.2.2.2.2.2.1
  have key27 : ∀ (bd : Dt) (w : qM), DOk bd → bd 98 32 = d0 98 32 → CAll w bd → vI w 68 7 = N → (∀ j, j < N → vI w 69 j = p j) → (∀ j, j < N → vI w 70 j = d0 125 (p j)) → ∀ (r j g : Nat), j + r = N → r < g → fX0_layPickedAnew_27 g (Zi (chL d0 bd p j)) (Zi j) w = some (Zi (chL d0 bd p N), w) := by
    intro bd w hDb hb32 hCw w7 w69 w70 r
    induction r with
    | zero =>
      intro j g hj hg
      obtain ⟨g, rfl⟩ : ∃ g', g = g' + 1 := ⟨g - 1, by omega⟩
      have hj' : j = N := by omega
      subst hj'
      simp (disch := omega) only [fX0_layPickedAnew_27, qbI_s, qbL_s, qbV_s, qbR_s, qbR_n, qbN_s, qbN_n, qbIX_s, qbIX_n, qbVX_s, qbVX_n, cond_true, cond_false, cond_dec, jadd, jsub, jmul, jneg, li_0, li_1, li_2, li_3, li_4, li_5, li_6, li_7, li_8, li_9, li_10, li_14, li_15, li_16, li_19, li_20, li_24, li_30, li_31, li_32, li_39, li_40, li_48, li_57, li_59, li_60, li_63, li_65, li_80, li_81, li_90, li_97, li_99, li_100, li_122, li_126, li_127, li_150, li_160, li_200, li_225, li_255, li_400, li_799, li_800, li_999, li_2400, li_3239, li_3240, li_1048575, li_1431655765, li_858993459, li_252645135, eqb_j, ltb_j, leb_j, inb_j, ix_j, ix_n, nz_b, nz_0, nz_1, eqb_b, bnot, vI_ne, vI_eq, gIL, gLI, gIR, gRI, gLR, gRL, Int.reduceLT, Int.reduceLE, Int.reduceEq, Int.reduceAdd, Int.reduceSub, Int.reduceMul, Int.reduceNeg, Int.reduceToNat, Nat.reduceEqDiff, reduceIte, if_neg, if_pos, gI_ne, gIv 68, w7]
    | succ r ih =>
      intro j g hj hg
      obtain ⟨g, rfl⟩ : ∃ g', g = g' + 1 := ⟨g - 1, by omega⟩
      have nx := ih (j + 1) g (by omega) (by omega)
      have cn : chL d0 bd p (j + 1) = chL d0 bd p j + (if decide (bd 125 (p j) ≠ d0 125 (p j)) then 1 else 0) := fb_ct_succ _ _
      have cle : chL d0 bd p j ≤ j := fb_ct_le _ _
      have a7 := w69 j (by omega)
      have a8 := w70 j (by omega)
      have hpl := hP.2.2.1 j (by omega)
      have k4 := (hCw.2.2.2.2.2.1.2.2.2 (p j) (by rw [hb32]; exact hpl.1)).2.2.2
      have sO : fX4_slotOf (Zi (p j)) w = some (Zi (bd 125 (p j)), w) := by
        have := hpl.1
        rw [fX4_slotOf_d]
        simp (disch := omega) only [fX4_slotOf_0, qbI_s, qbL_s, qbV_s, qbR_s, qbR_n, qbN_s, qbN_n, qbIX_s, qbIX_n, qbVX_s, qbVX_n, cond_true, cond_false, cond_dec, jadd, jsub, jmul, jneg, li_0, li_1, li_2, li_3, li_4, li_5, li_6, li_7, li_8, li_9, li_10, li_14, li_15, li_16, li_19, li_20, li_24, li_30, li_31, li_32, li_39, li_40, li_48, li_57, li_59, li_60, li_63, li_65, li_80, li_81, li_90, li_97, li_99, li_100, li_122, li_126, li_127, li_150, li_160, li_200, li_225, li_255, li_400, li_799, li_800, li_999, li_2400, li_3239, li_3240, li_1048575, li_1431655765, li_858993459, li_252645135, eqb_j, ltb_j, leb_j, inb_j, ix_j, ix_n, nz_b, nz_0, nz_1, eqb_b, bnot, vI_ne, vI_eq, gIL, gLI, gIR, gRI, gLR, gRL, Int.reduceLT, Int.reduceLE, Int.reduceEq, Int.reduceAdd, Int.reduceSub, Int.reduceMul, Int.reduceNeg, Int.reduceToNat, Nat.reduceEqDiff, reduceIte, if_neg, if_pos, gI_ne, gIv 62, k4.1]
      have o4 := (hD.2.2.2.2.2.2 (p j) hpl.1).2.2.2
      rw [cn] at nx
      by_cases hz : bd 125 (p j) = d0 125 (p j)
      · rw [decide_eq_false (fun z => z hz)] at nx
        simp (disch := omega) only [fX0_layPickedAnew_27, fX0_layPickedAnew_44, qbI_s, qbL_s, qbV_s, qbR_s, qbR_n, qbN_s, qbN_n, qbIX_s, qbIX_n, qbVX_s, qbVX_n, cond_true, cond_false, cond_dec, jadd, jsub, jmul, jneg, li_0, li_1, li_2, li_3, li_4, li_5, li_6, li_7, li_8, li_9, li_10, li_14, li_15, li_16, li_19, li_20, li_24, li_30, li_31, li_32, li_39, li_40, li_48, li_57, li_59, li_60, li_63, li_65, li_80, li_81, li_90, li_97, li_99, li_100, li_122, li_126, li_127, li_150, li_160, li_200, li_225, li_255, li_400, li_799, li_800, li_999, li_2400, li_3239, li_3240, li_1048575, li_1431655765, li_858993459, li_252645135, eqb_j, ltb_j, leb_j, inb_j, ix_j, ix_n, nz_b, nz_0, nz_1, eqb_b, bnot, vI_ne, vI_eq, gIL, gLI, gIR, gRI, gLR, gRL, Int.reduceLT, Int.reduceLE, Int.reduceEq, Int.reduceAdd, Int.reduceSub, Int.reduceMul, Int.reduceNeg, Int.reduceToNat, Nat.reduceEqDiff, reduceIte, if_neg, if_pos, gI_ne, gIv 68, w7, gIv 69, a7, gIv 70, a8, sO]
        exact nx
      · rw [decide_eq_true hz] at nx
        simp (disch := omega) only [fX0_layPickedAnew_27, fX0_layPickedAnew_44, qbI_s, qbL_s, qbV_s, qbR_s, qbR_n, qbN_s, qbN_n, qbIX_s, qbIX_n, qbVX_s, qbVX_n, cond_true, cond_false, cond_dec, jadd, jsub, jmul, jneg, li_0, li_1, li_2, li_3, li_4, li_5, li_6, li_7, li_8, li_9, li_10, li_14, li_15, li_16, li_19, li_20, li_24, li_30, li_31, li_32, li_39, li_40, li_48, li_57, li_59, li_60, li_63, li_65, li_80, li_81, li_90, li_97, li_99, li_100, li_122, li_126, li_127, li_150, li_160, li_200, li_225, li_255, li_400, li_799, li_800, li_999, li_2400, li_3239, li_3240, li_1048575, li_1431655765, li_858993459, li_252645135, eqb_j, ltb_j, leb_j, inb_j, ix_j, ix_n, nz_b, nz_0, nz_1, eqb_b, bnot, vI_ne, vI_eq, gIL, gLI, gIR, gRI, gLR, gRL, Int.reduceLT, Int.reduceLE, Int.reduceEq, Int.reduceAdd, Int.reduceSub, Int.reduceMul, Int.reduceNeg, Int.reduceToNat, Nat.reduceEqDiff, reduceIte, if_neg, if_pos, gI_ne, gIv 68, w7, gIv 69, a7, gIv 70, a8, sO]
        exact nx
  have key2 : ∀ (r j g : Nat) (w : qM), j + r = N → r < g → CAll w (dnS d0 p j) → (∀ c k, ¬ (c = 58 ∧ 13 ≤ k ∧ k ≤ 16 ∨ c = 62 ∨ 64 ≤ c ∧ c ≤ 67 ∨ c = 70) → gI w c k = gI m c k) → gR w = gR m → (∀ j', j' < j → vI w 70 j' = d0 125 (p j')) → wp (fX0_layPickedAnew_2 (fX0_layPickedAnew_27 FU) g x (Zi j) w) (fun y m' => y = Zi (chL d0 (enB p al N 0 (dnS d0 p N) (-1, dnS d0 p N)).2 p N) ∧ CAll m' (enB p al N 0 (dnS d0 p N) (-1, dnS d0 p N)).2 ∧ (∀ c k, ¬ (c = 58 ∧ 13 ≤ k ∧ k ≤ 16 ∨ c = 62 ∨ 64 ≤ c ∧ c ≤ 73) → gI m' c k = gI m c k) ∧ gR m' = gR m) := by
    intro r
    induction r with
    | zero =>
      intro j g w hj hg hCw hF hgR h70
      obtain ⟨g, rfl⟩ : ∃ g', g = g' + 1 := ⟨g - 1, by omega⟩
      have hj' : j = N := by omega
      subst hj'
      have w7 := (vI_of (hF 68 7 (by omega))).trans h7
      have w69 : ∀ j', j' < j → vI w 69 j' = p j' := fun j' h => (vI_of (hF 69 j' (by omega))).trans (h69 j' h)
      obtain ⟨hRb, y, m1, e1, e2, e3, e4⟩ := layPicked_s (al := al) hP.pk w hCw w7 w69 x hx
      generalize (enB p al j 0 (dnS d0 p j) (-1, dnS d0 p j)).2 = bd at *
      have fb := hRb.f hP.pk (Nat.le_refl _)
      have k27 := key27 bd m1 fb.1 (by rw [fb.2.1 98 32 (by omega), dnS_ne d0 p 32 (by omega)]) e3 ((vI_of (e4.1 68 7 (by omega))).trans w7) (fun j' h => (vI_of (e4.1 69 j' (by omega))).trans (w69 j' h)) (fun j' h => (vI_of (e4.1 70 j' (by omega))).trans (h70 j' h)) j 0 FU (by omega) (by rw [FU_d]; omega)
      have k27' : fX0_layPickedAnew_27 FU (Zi 0) (Zi 0) m1 = some (Zi (chL d0 bd p j), m1) := k27
      refine wp_e (x := Zi (chL d0 bd p j)) (m := m1) ?_ ⟨rfl, e3, fun c k hc => ?_, e4.2.trans hgR⟩
      · simp (disch := omega) only [fX0_layPickedAnew_2, qbI_s, qbL_s, qbV_s, qbR_s, qbR_n, qbN_s, qbN_n, qbIX_s, qbIX_n, qbVX_s, qbVX_n, cond_true, cond_false, cond_dec, jadd, jsub, jmul, jneg, li_0, li_1, li_2, li_3, li_4, li_5, li_6, li_7, li_8, li_9, li_10, li_14, li_15, li_16, li_19, li_20, li_24, li_30, li_31, li_32, li_39, li_40, li_48, li_57, li_59, li_60, li_63, li_65, li_80, li_81, li_90, li_97, li_99, li_100, li_122, li_126, li_127, li_150, li_160, li_200, li_225, li_255, li_400, li_799, li_800, li_999, li_2400, li_3239, li_3240, li_1048575, li_1431655765, li_858993459, li_252645135, eqb_j, ltb_j, leb_j, inb_j, ix_j, ix_n, nz_b, nz_0, nz_1, eqb_b, bnot, vI_ne, vI_eq, gIL, gLI, gIR, gRI, gLR, gRL, Int.reduceLT, Int.reduceLE, Int.reduceEq, Int.reduceAdd, Int.reduceSub, Int.reduceMul, Int.reduceNeg, Int.reduceToNat, Nat.reduceEqDiff, reduceIte, if_neg, if_pos, gI_ne, gIv 68, w7, e1, k27']
      · rw [e4.1 c k (by omega)]
        exact hF c k (by omega)
    | succ r ih =>
      intro j g w hj hg hCw hF hgR h70
      obtain ⟨g, rfl⟩ : ∃ g', g = g' + 1 := ⟨g - 1, by omega⟩
      have w7 := (vI_of (hF 68 7 (by omega))).trans h7
      have a7 := (vI_of (hF 69 j (by omega))).trans (h69 j (by omega))
      have hpl := hP.2.2.1 j (by omega)
      have o4 := (hD.2.2.2.2.2.2 (p j) hpl.1).2.2.2
      have dj : dnS d0 p j 125 (p j) = d0 125 (p j) := dnS_ge d0 p (p j) j (fun i hi z => by have := hP.2.2.2 j i (by omega) (by omega) z; omega)
      obtain ⟨s, hs⟩ : ∃ s : Nat, d0 125 (p j) = s := ⟨(d0 125 (p j)).toNat, by omega⟩
      obtain ⟨y, m1, t1, t2, t3, t4⟩ := take_s w _ hCw (p j) s (by rw [dnS_ne d0 p 32 (by omega)]; exact hpl.1) (by rw [dj, hs]) (by omega)
      have t1' : fX4_take (Zi (p j)) w = some (Zi s, m1) := by rw [t1, t2]
      have q1 : ∀ c k, ¬ (c = 58 ∧ 13 ≤ k ∧ k ≤ 16 ∨ c = 62 ∨ 64 ≤ c ∧ c ≤ 67) → gI m1 c k = gI w c k := t4.1
      have nx := ih (j + 1) g (sI m1 70 j (Zi s)) (by omega) (by omega) (CAll.congr (d := dnS d0 p (j + 1)) t3 (fun c k hc => gI_ne (by omega)) (fun _ _ _ => rfl)) (fun c k hc => by rw [gI_sI, if_neg (by omega), q1 c k (by omega)]; exact hF c k hc) (by rw [gR_sI, t4.2.2]; exact hgR) (fun j' hj' => by
        by_cases e : j' = j
        · rw [e, hs]
          simp (disch := omega) only [qbI_s, qbL_s, qbV_s, qbR_s, qbR_n, qbN_s, qbN_n, qbIX_s, qbIX_n, qbVX_s, qbVX_n, cond_true, cond_false, cond_dec, jadd, jsub, jmul, jneg, li_0, li_1, li_2, li_3, li_4, li_5, li_6, li_7, li_8, li_9, li_10, li_14, li_15, li_16, li_19, li_20, li_24, li_30, li_31, li_32, li_39, li_40, li_48, li_57, li_59, li_60, li_63, li_65, li_80, li_81, li_90, li_97, li_99, li_100, li_122, li_126, li_127, li_150, li_160, li_200, li_225, li_255, li_400, li_799, li_800, li_999, li_2400, li_3239, li_3240, li_1048575, li_1431655765, li_858993459, li_252645135, eqb_j, ltb_j, leb_j, inb_j, ix_j, ix_n, nz_b, nz_0, nz_1, eqb_b, bnot, vI_ne, vI_eq, gIL, gLI, gIR, gRI, gLR, gRL, Int.reduceLT, Int.reduceLE, Int.reduceEq, Int.reduceAdd, Int.reduceSub, Int.reduceMul, Int.reduceNeg, Int.reduceToNat, Nat.reduceEqDiff, reduceIte, if_neg, if_pos, gI_ne]
        · rw [vI_of (show gI (sI m1 70 j (Zi s)) 70 j' = gI m1 70 j' by rw [gI_eq, if_neg e]), vI_of (q1 70 j' (by omega))]
          exact h70 j' (by omega))
      have := hpl.1
      simp (disch := omega) only [fX0_layPickedAnew_2, qbI_s, qbL_s, qbV_s, qbR_s, qbR_n, qbN_s, qbN_n, qbIX_s, qbIX_n, qbVX_s, qbVX_n, cond_true, cond_false, cond_dec, jadd, jsub, jmul, jneg, li_0, li_1, li_2, li_3, li_4, li_5, li_6, li_7, li_8, li_9, li_10, li_14, li_15, li_16, li_19, li_20, li_24, li_30, li_31, li_32, li_39, li_40, li_48, li_57, li_59, li_60, li_63, li_65, li_80, li_81, li_90, li_97, li_99, li_100, li_122, li_126, li_127, li_150, li_160, li_200, li_225, li_255, li_400, li_799, li_800, li_999, li_2400, li_3239, li_3240, li_1048575, li_1431655765, li_858993459, li_252645135, eqb_j, ltb_j, leb_j, inb_j, ix_j, ix_n, nz_b, nz_0, nz_1, eqb_b, bnot, vI_ne, vI_eq, gIL, gLI, gIR, gRI, gLR, gRL, Int.reduceLT, Int.reduceLE, Int.reduceEq, Int.reduceAdd, Int.reduceSub, Int.reduceMul, Int.reduceNeg, Int.reduceToNat, Nat.reduceEqDiff, reduceIte, if_neg, if_pos, gI_ne, gIv 68, w7, gIv 69, a7, t1']
      exact nx
  rw [fX0_layPickedAnew_d]
  simp only [fX0_layPickedAnew_0]
  exact key2 N 0 FU m (by omega) (by rw [FU_d]; omega) hC (fun _ _ _ => rfl) rfl (fun j' h => by omega)
theorem ahead_s (m : qM) (d : Dt) (hC : CAll m d) (u : Int) (hu : 0 ≤ u ∧ u ≤ 799) : ∃ x, fX7_slotsNotAheadOf (Zi u) m = some (x, m) ∧ ∀ s, s < 20 → bt x s = decide ((min 20 ((u + d 99 0 - 1) / d 99 0)).toNat ≤ s) := by
  have hRu := hC.1
  have h5 := hRu.1 0 (by omega)
  have r0 := hRu.2.1
  have hd : 0 ≤ (u + d 99 0 - 1) / d 99 0 ∧ (u + d 99 0 - 1) / d 99 0 ≤ u + d 99 0 - 1 := ⟨Int.ediv_nonneg (by omega) (by omega), Int.ediv_le_self _ (by omega)⟩
  obtain ⟨x, x1, x2⟩ := slotsFrom_s ((u + d 99 0 - 1) / d 99 0) 19 (by omega) m
  refine ⟨x, ?_, fun s hs => ?_⟩
  · rw [fX7_slotsNotAheadOf_d]
    simp (disch := omega) only [fX7_slotsNotAheadOf_0, fX7_slotMinutes_d, fX7_slotMinutes_0, fX7_slotMinutes_11, qbI_s, qbL_s, qbV_s, qbR_s, qbR_n, qbN_s, qbN_n, qbIX_s, qbIX_n, qbVX_s, qbVX_n, cond_true, cond_false, cond_dec, jadd, jsub, jmul, jneg, li_0, li_1, li_2, li_3, li_4, li_5, li_6, li_7, li_8, li_9, li_10, li_14, li_15, li_16, li_19, li_20, li_24, li_30, li_31, li_32, li_39, li_40, li_48, li_57, li_59, li_60, li_63, li_65, li_80, li_81, li_90, li_97, li_99, li_100, li_122, li_126, li_127, li_150, li_160, li_200, li_225, li_255, li_400, li_799, li_800, li_999, li_2400, li_3239, li_3240, li_1048575, li_1431655765, li_858993459, li_252645135, eqb_j, ltb_j, leb_j, inb_j, ix_j, ix_n, nz_b, nz_0, nz_1, eqb_b, bnot, vI_ne, vI_eq, gIL, gLI, gIR, gRI, gLR, gRL, Int.reduceLT, Int.reduceLE, Int.reduceEq, Int.reduceAdd, Int.reduceSub, Int.reduceMul, Int.reduceNeg, Int.reduceToNat, Nat.reduceEqDiff, reduceIte, if_neg, if_pos, gI_ne, gIv 5, h5, jdiv, x1]
  · rw [x2 s (by omega), Bool.eq_iff_iff, decide_eq_true_eq, decide_eq_true_eq]
    omega
