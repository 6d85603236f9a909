/-! mend: the operation -/
theorem CClash.dn {m m' : qM} {d : Dt} (h : CClash m d) (a : Nat) : CClash m' (upS d a (-1)) := by
  intro x y hx hy hxy h1 h2
  have q : ∀ c k, ¬ c = 125 → (upS d a (-1)) c k = d c k := fun c k hc => upS_ne d a (-1) hc
  simp (disch := omega) only [q] at hx hy ⊢
  rw [upS_eq] at h1 h2
  rw [upS_eq] at h2
  have ex : x ≠ a := fun e => h1 (by rw [if_pos e])
  rw [if_neg ex] at h1 h2
  have ey : y ≠ a := fun e => h1 (by rw [if_pos e] at h2; exact h2)
  rw [if_neg ey] at h2
  exact h x y hx hy hxy h1 h2
theorem dnS_cl {m : qM} (d : Dt) (p : Nat → Nat) (h : CClash m d) : ∀ j, CClash m (dnS d p j)
  | 0 => h
  | j + 1 => (dnS_cl d p h j).dn (p j)
theorem op_mend (m : qM) (h : RAll m) (u : Int) (hu0 : -2147483648 ≤ u ∧ u < 2147483648) : QAll m (fX11_mend (Zi u)) (fX13_mend (Zi u)) := by
  have hR := h.1
  have hR' := hR
  obtain ⟨⟨hT, hRd, hRu, hFo, hHa⟩, ⟨hPt, hPf, hAp, hWk⟩, ⟨hAs, hPa, hCl, hDi, hBi, hCn⟩, ⟨hTe, hBe, hNo, hPo⟩⟩ := hR'
  have b1 := hBe.1
  have b2 := hBe.2.1
  have bf : bI false = 0 := rfl
  have btr : bI true = 1 := rfl
  have n32 : 0 ≤ vI m 98 32 ∧ vI m 98 32 ≤ 40 := ⟨hAs.2.1, hAs.2.2.1⟩
  have mC := mR_s u hu0 m
  by_cases g2 : 0 ≤ u ∧ u ≤ 799
  · rw [decide_eq_true g2] at mC
    by_cases gb : vI m 98 33 = 1
    · obtain ⟨K, k1, k2, k3, k4, k5⟩ := known_s hTe u g2
      obtain ⟨x1, m1, e1, F1, A1, dn1, -⟩ := ready_s h gb K k2 k3
      have v1 : ∀ c k, ¬ (80 ≤ c ∧ c ≤ 92) → vI m1 c k = vI m c k := fun c k hc => F1.v c k hc
      have gb1 : vI m1 98 33 = 1 := by rw [v1 98 33 (by omega)]; exact gb
      have k4' : ∀ k, k < K → vI m1 134 k ≤ u := fun k hk => by rw [v1 134 k (by omega)]; exact k4 k hk
      have k5' : vI m1 98 52 = K ∨ u < vI m1 134 K := by rw [v1 98 52 (by omega), v1 134 K (by omega)]; exact k5
      have hC := CAll.of A1.1
      have hD := DOk.of hC
      have hA11 := hC.2.2.2.2.2.1.1
      obtain ⟨n, hn⟩ : ∃ n : Nat, vI m1 98 32 = n := ⟨(vI m1 98 32).toNat, by rw [v1 98 32 (by omega)]; omega⟩
      have hn40 : n ≤ 40 := by have := v1 98 32 (by omega); omega
      have rK := rowR A1 K k2 dn1
      have cls := missC A1.1 K k2 (fun a ha => (rK a ha).1)
      rw [hn, Int.toNat_natCast] at cls
      obtain ⟨ms, hms⟩ : ∃ ms : Nat → Bool, ms = msB (vI m1) (rwS m1 K) := ⟨_, rfl⟩
      rw [← hms] at cls
      have ctle := fb_ct_le ms n
      have msI : ∀ a, ms a = true ↔ vI m1 125 a ≠ -1 ∧ rwS m1 K a = -1 := fun a => by rw [hms]; unfold msB; exact decide_eq_true_iff
      -- the reference counts
      have key18 : ∀ (w : qM), vI w 98 32 = n → (∀ a : Nat, a < n → vI w 149 a = (if vI m1 125 a ≠ -1 ∧ rwS m1 K a = -1 then 1 else 0)) → ∀ (k45 : Int32 → Int32 → qM → Option (Int32 × qM)) (r i g : Nat), i + r = n → r < g → fX13_mend_18 k45 g (Zi u) (Zi (fb_ct ms i : Nat)) (Zi i) w = if fb_ct ms n ≤ 4 then k45 (Zi u) (Zi 0) (sI w 98 43 (Zi 0)) else some (Zi (-3), w) := by
        intro w w32 w149 k45 r
        induction r with
        | zero =>
          intro i g hi hg
          obtain ⟨g, rfl⟩ : ∃ g', g = g' + 1 := ⟨g - 1, by omega⟩
          have hi' : i = n := by omega
          subst hi'
          by_cases h4 : fb_ct ms i ≤ 4
          · rw [if_pos h4]
            simp (disch := omega) only [fX13_mend_18, qbI_s, qbL_s, qbV_s, qbR_s, qbR_n, qbN_s, qbN_n, qbIX_s, qbIX_n, qbVX_s, qbVX_n, cond_true, cond_false, cond_dec, jadd, jsub, jmul, jneg, li_0, li_1, li_2, li_3, li_4, li_5, li_6, li_7, li_8, li_9, li_10, li_14, li_15, li_16, li_19, li_20, li_24, li_30, li_31, li_32, li_39, li_40, li_48, li_57, li_59, li_60, li_63, li_65, li_80, li_81, li_90, li_97, li_99, li_100, li_122, li_126, li_127, li_150, li_160, li_200, li_225, li_255, li_400, li_799, li_800, li_999, li_2400, li_3239, li_3240, li_1048575, li_1431655765, li_858993459, li_252645135, eqb_j, ltb_j, leb_j, inb_j, ix_j, ix_n, nz_b, nz_0, nz_1, eqb_b, bnot, vI_ne, vI_eq, gIL, gLI, gIR, gRI, gLR, gRL, Int.reduceLT, Int.reduceLE, Int.reduceEq, Int.reduceAdd, Int.reduceSub, Int.reduceMul, Int.reduceNeg, Int.reduceToNat, Nat.reduceEqDiff, reduceIte, if_neg, if_pos, gI_ne, gIv 98, w32]
          · rw [if_neg h4]
            simp (disch := omega) only [fX13_mend_18, qbI_s, qbL_s, qbV_s, qbR_s, qbR_n, qbN_s, qbN_n, qbIX_s, qbIX_n, qbVX_s, qbVX_n, cond_true, cond_false, cond_dec, jadd, jsub, jmul, jneg, li_0, li_1, li_2, li_3, li_4, li_5, li_6, li_7, li_8, li_9, li_10, li_14, li_15, li_16, li_19, li_20, li_24, li_30, li_31, li_32, li_39, li_40, li_48, li_57, li_59, li_60, li_63, li_65, li_80, li_81, li_90, li_97, li_99, li_100, li_122, li_126, li_127, li_150, li_160, li_200, li_225, li_255, li_400, li_799, li_800, li_999, li_2400, li_3239, li_3240, li_1048575, li_1431655765, li_858993459, li_252645135, eqb_j, ltb_j, leb_j, inb_j, ix_j, ix_n, nz_b, nz_0, nz_1, eqb_b, bnot, vI_ne, vI_eq, gIL, gLI, gIR, gRI, gLR, gRL, Int.reduceLT, Int.reduceLE, Int.reduceEq, Int.reduceAdd, Int.reduceSub, Int.reduceMul, Int.reduceNeg, Int.reduceToNat, Nat.reduceEqDiff, reduceIte, if_neg, if_pos, gI_ne, gIv 98, w32]
            all_goals rfl
        | succ r ih =>
          intro i g hi hg
          obtain ⟨g, rfl⟩ : ∃ g', g = g' + 1 := ⟨g - 1, by omega⟩
          have nx := ih (i + 1) g (by omega) (by omega)
          have cli := fb_ct_le ms i
          have wi := w149 i (by omega)
          rw [← nx, fb_ct_succ]
          cases hb : ms i
          · rw [if_neg (fun z => by have := (msI i).mpr z; rw [hb] at this; cases this)] at wi
            simp (disch := omega) only [fX13_mend_18, fX13_mend_31, qbI_s, qbL_s, qbV_s, qbR_s, qbR_n, qbN_s, qbN_n, qbIX_s, qbIX_n, qbVX_s, qbVX_n, cond_true, cond_false, cond_dec, jadd, jsub, jmul, jneg, li_0, li_1, li_2, li_3, li_4, li_5, li_6, li_7, li_8, li_9, li_10, li_14, li_15, li_16, li_19, li_20, li_24, li_30, li_31, li_32, li_39, li_40, li_48, li_57, li_59, li_60, li_63, li_65, li_80, li_81, li_90, li_97, li_99, li_100, li_122, li_126, li_127, li_150, li_160, li_200, li_225, li_255, li_400, li_799, li_800, li_999, li_2400, li_3239, li_3240, li_1048575, li_1431655765, li_858993459, li_252645135, eqb_j, ltb_j, leb_j, inb_j, ix_j, ix_n, nz_b, nz_0, nz_1, eqb_b, bnot, vI_ne, vI_eq, gIL, gLI, gIR, gRI, gLR, gRL, Int.reduceLT, Int.reduceLE, Int.reduceEq, Int.reduceAdd, Int.reduceSub, Int.reduceMul, Int.reduceNeg, Int.reduceToNat, Nat.reduceEqDiff, reduceIte, if_neg, if_pos, gI_ne, gIv 98, w32, gIv 149, wi, Int.add_zero]
            all_goals rfl
          · rw [if_pos ((msI i).mp hb)] at wi
            simp (disch := omega) only [fX13_mend_18, fX13_mend_31, qbI_s, qbL_s, qbV_s, qbR_s, qbR_n, qbN_s, qbN_n, qbIX_s, qbIX_n, qbVX_s, qbVX_n, cond_true, cond_false, cond_dec, jadd, jsub, jmul, jneg, li_0, li_1, li_2, li_3, li_4, li_5, li_6, li_7, li_8, li_9, li_10, li_14, li_15, li_16, li_19, li_20, li_24, li_30, li_31, li_32, li_39, li_40, li_48, li_57, li_59, li_60, li_63, li_65, li_80, li_81, li_90, li_97, li_99, li_100, li_122, li_126, li_127, li_150, li_160, li_200, li_225, li_255, li_400, li_799, li_800, li_999, li_2400, li_3239, li_3240, li_1048575, li_1431655765, li_858993459, li_252645135, eqb_j, ltb_j, leb_j, inb_j, ix_j, ix_n, nz_b, nz_0, nz_1, eqb_b, bnot, vI_ne, vI_eq, gIL, gLI, gIR, gRI, gLR, gRL, Int.reduceLT, Int.reduceLE, Int.reduceEq, Int.reduceAdd, Int.reduceSub, Int.reduceMul, Int.reduceNeg, Int.reduceToNat, Nat.reduceEqDiff, reduceIte, if_neg, if_pos, gI_ne, gIv 98, w32, gIv 149, wi]
            all_goals rfl
      by_cases g4 : fb_ct ms n ≤ 4
      · -- the class
        have hPm : Pm (vI m1) (kth ms n) (fb_ct ms n) := Pm.of hD ms n (by omega) g4 (fun i _ hi => ((msI i).mp hi).1)
        have hPk := hPm.pk
        obtain ⟨fr, hfr⟩ : ∃ fr : Nat, fr = (min 20 ((u + vI m1 99 0 - 1) / vI m1 99 0)).toNat := ⟨_, rfl⟩
        have slot := hD.1.1
        have hdv : 0 ≤ (u + vI m1 99 0 - 1) / vI m1 99 0 ∧ (u + vI m1 99 0 - 1) / vI m1 99 0 ≤ u + vI m1 99 0 - 1 := ⟨Int.ediv_nonneg (by omega) (by omega), Int.ediv_le_self _ (by omega)⟩
        have hfr20 : fr ≤ 20 := by omega
        obtain ⟨bd, hbd⟩ : ∃ bd : Dt, bd = (enB (kth ms n) (fun s => decide (fr ≤ s)) (fb_ct ms n) 0 (dnS (vI m1) (kth ms n) (fb_ct ms n)) (-1, dnS (vI m1) (kth ms n) (fb_ct ms n))).2 := ⟨_, rfl⟩
        have key32 : ∀ (r i g : Nat) (w : qM), i + r = n → r < g → Fr (fun c k => c = 68 ∧ k = 7 ∨ c = 69) m1 w → vI w 68 7 = (fb_ct ms i : Nat) → (∀ k, k < i → ms k = true → vI w 69 (fb_ct ms k) = k) → wp (fX11_mend_32 g (Zi u) (Zi K) (Zi i) w) (fun y m' => y = Zi (chL (vI m1) bd (kth ms n) (fb_ct ms n)) ∧ CAll m' bd ∧ (∀ c k, ¬ (c = 58 ∧ 13 ≤ k ∧ k ≤ 16 ∨ c = 62 ∨ 64 ≤ c ∧ c ≤ 73 ∨ c = 83) → gI m' c k = gI m1 c k) ∧ gR m' = gR m1 ∧ ∀ j, j < 81 → vI m' 83 j = 0) := by
          intro r
          induction r with
          | zero =>
            intro i g w hi hg hF h7 h69
            obtain ⟨g, rfl⟩ : ∃ g', g = g' + 1 := ⟨g - 1, by omega⟩
            have hi' : i = n := by omega
            subst hi'
            have w11 : vI w 58 11 = i := by rw [hF.v 58 11 (by omega), hA11]; exact hn
            obtain ⟨xf, m2, f1, f2, f3⟩ := forget_s w
            have hC2 : CAll m2 (vI m1) := hC.congr (fun c k hc => (f3.1 c k (by omega)).trans (hF.1 c k (by omega))) (fun _ _ _ => rfl)
            obtain ⟨xa, a1, a2⟩ := ahead_s m2 (vI m1) hC2 u g2
            rw [← hfr] at a2
            obtain ⟨y, m3, l1, l2, l3, l4, l5⟩ := layAnew_s (al := fun s => decide (fr ≤ s)) hPm m2 hC2 ((f3.v 68 7 (by omega)).trans h7) (fun j hj => by
              have h := kth_s hj
              have := h69 _ h.1 h.2.1
              rw [h.2.2] at this
              exact (f3.v 69 j (by omega)).trans this) xa a2
            rw [← hbd] at l2 l3
            refine wp_e (x := y) (m := m3) ?_ ⟨l2, l3, fun c k hc => ?_, ?_, fun j hj => ?_⟩
            · simp (disch := omega) only [fX11_mend_32, fX4_asks_d, fX4_asks_0, qbI_s, qbL_s, qbV_s, qbR_s, qbR_n, qbN_s, qbN_n, qbIX_s, qbIX_n, qbVX_s, qbVX_n, cond_true, cond_false, cond_dec, jadd, jsub, jmul, jneg, li_0, li_1, li_2, li_3, li_4, li_5, li_6, li_7, li_8, li_9, li_10, li_14, li_15, li_16, li_19, li_20, li_24, li_30, li_31, li_32, li_39, li_40, li_48, li_57, li_59, li_60, li_63, li_65, li_80, li_81, li_90, li_97, li_99, li_100, li_122, li_126, li_127, li_150, li_160, li_200, li_225, li_255, li_400, li_799, li_800, li_999, li_2400, li_3239, li_3240, li_1048575, li_1431655765, li_858993459, li_252645135, eqb_j, ltb_j, leb_j, inb_j, ix_j, ix_n, nz_b, nz_0, nz_1, eqb_b, bnot, vI_ne, vI_eq, gIL, gLI, gIR, gRI, gLR, gRL, Int.reduceLT, Int.reduceLE, Int.reduceEq, Int.reduceAdd, Int.reduceSub, Int.reduceMul, Int.reduceNeg, Int.reduceToNat, Nat.reduceEqDiff, reduceIte, if_neg, if_pos, gI_ne, gIv 58, w11, f1, a1, l1]
            · rw [l4 c k (by omega), f3.1 c k (by omega)]
              exact hF.1 c k (by omega)
            · rw [l5, f3.2.2]
              exact hF.2.2
            · rw [vI_of (l4 83 j (by omega))]
              exact f2 j hj
          | succ r ih =>
            intro i g w hi hg hF h7 h69
            obtain ⟨g, rfl⟩ : ∃ g', g = g' + 1 := ⟨g - 1, by omega⟩
            have w11 : vI w 58 11 = n := by rw [hF.v 58 11 (by omega), hA11]; exact hn
            have hCw : CAll w (vI m1) := hC.congr (fun c k hc => hF.1 c k (by omega)) (fun _ _ _ => rfl)
            have ld := laidD w (vI m1) hCw.2.2.2.2.2.1 i (by omega)
            have sO := startOf_s w K i k2 (by omega)
            have rwe : rwS w K i = rwS m1 K i := hF.v 81 (40 * K + i) (by omega)
            rw [rwe] at sO
            have rr := (rK i (by omega)).1
            have cli := fb_ct_le ms i
            have skip : ms i = false → wp (fX11_mend_32 g (Zi u) (Zi K) (Zi ((i : Int) + 1)) w) (fun y m' => y = Zi (chL (vI m1) bd (kth ms n) (fb_ct ms n)) ∧ CAll m' bd ∧ (∀ c k, ¬ (c = 58 ∧ 13 ≤ k ∧ k ≤ 16 ∨ c = 62 ∨ 64 ≤ c ∧ c ≤ 73 ∨ c = 83) → gI m' c k = gI m1 c k) ∧ gR m' = gR m1 ∧ ∀ j, j < 81 → vI m' 83 j = 0) := fun hb =>
              ih (i + 1) g w (by omega) (by omega) hF (by rw [fb_ct_succ, hb]; exact h7) (fun k hk hm => by
                have : k ≠ i := fun y => (by rw [y, hb] at hm; cases hm)
                exact h69 k (by omega) hm)
            by_cases hl : vI m1 125 i = -1
            · rw [show isLd (vI m1) i = false from decide_eq_false (fun y => y hl)] at ld
              have hb : ms i = false := by
                rw [← Bool.not_eq_true, msI]
                exact fun z => z.1 hl
              simp (disch := omega) only [fX11_mend_32, fX11_mend_53, fX4_asks_d, fX4_asks_0, qbI_s, qbL_s, qbV_s, qbR_s, qbR_n, qbN_s, qbN_n, qbIX_s, qbIX_n, qbVX_s, qbVX_n, cond_true, cond_false, cond_dec, jadd, jsub, jmul, jneg, li_0, li_1, li_2, li_3, li_4, li_5, li_6, li_7, li_8, li_9, li_10, li_14, li_15, li_16, li_19, li_20, li_24, li_30, li_31, li_32, li_39, li_40, li_48, li_57, li_59, li_60, li_63, li_65, li_80, li_81, li_90, li_97, li_99, li_100, li_122, li_126, li_127, li_150, li_160, li_200, li_225, li_255, li_400, li_799, li_800, li_999, li_2400, li_3239, li_3240, li_1048575, li_1431655765, li_858993459, li_252645135, eqb_j, ltb_j, leb_j, inb_j, ix_j, ix_n, nz_b, nz_0, nz_1, eqb_b, bnot, vI_ne, vI_eq, gIL, gLI, gIR, gRI, gLR, gRL, Int.reduceLT, Int.reduceLE, Int.reduceEq, Int.reduceAdd, Int.reduceSub, Int.reduceMul, Int.reduceNeg, Int.reduceToNat, Nat.reduceEqDiff, reduceIte, if_neg, if_pos, gI_ne, gIv 58, w11, ld, bf]
              exact skip hb
            · rw [show isLd (vI m1) i = true from decide_eq_true hl] at ld
              by_cases hs : rwS m1 K i = -1
              · have hb : ms i = true := (msI i).mpr ⟨hl, hs⟩
                have clt : fb_ct ms i < 4 := by
                  have := fb_ct_mono ms (show i + 1 ≤ n by omega)
                  rw [fb_ct_succ, hb, if_pos rfl] at this
                  omega
                have pk := pick_s w (fb_ct ms i) i h7 clt
                have nx := ih (i + 1) g _ (by omega) (by omega) ((hF.wI 69 (fb_ct ms i) (Zi i) (by omega)).wI 68 7 (Zi ((fb_ct ms i : Nat) + 1)) (by omega)) (by
                  rw [fb_ct_succ, hb, if_pos rfl]
                  simp (disch := omega) only [qbI_s, qbL_s, qbV_s, qbR_s, qbR_n, qbN_s, qbN_n, qbIX_s, qbIX_n, qbVX_s, qbVX_n, cond_true, cond_false, cond_dec, jadd, jsub, jmul, jneg, li_0, li_1, li_2, li_3, li_4, li_5, li_6, li_7, li_8, li_9, li_10, li_14, li_15, li_16, li_19, li_20, li_24, li_30, li_31, li_32, li_39, li_40, li_48, li_57, li_59, li_60, li_63, li_65, li_80, li_81, li_90, li_97, li_99, li_100, li_122, li_126, li_127, li_150, li_160, li_200, li_225, li_255, li_400, li_799, li_800, li_999, li_2400, li_3239, li_3240, li_1048575, li_1431655765, li_858993459, li_252645135, eqb_j, ltb_j, leb_j, inb_j, ix_j, ix_n, nz_b, nz_0, nz_1, eqb_b, bnot, vI_ne, vI_eq, gIL, gLI, gIR, gRI, gLR, gRL, Int.reduceLT, Int.reduceLE, Int.reduceEq, Int.reduceAdd, Int.reduceSub, Int.reduceMul, Int.reduceNeg, Int.reduceToNat, Nat.reduceEqDiff, reduceIte, if_neg, if_pos, gI_ne]
                  all_goals rfl) (fun k hk hm => by
                  rw [vI_ne (by omega)]
                  by_cases e : k = i
                  · rw [e]
                    simp (disch := omega) only [qbI_s, qbL_s, qbV_s, qbR_s, qbR_n, qbN_s, qbN_n, qbIX_s, qbIX_n, qbVX_s, qbVX_n, cond_true, cond_false, cond_dec, jadd, jsub, jmul, jneg, li_0, li_1, li_2, li_3, li_4, li_5, li_6, li_7, li_8, li_9, li_10, li_14, li_15, li_16, li_19, li_20, li_24, li_30, li_31, li_32, li_39, li_40, li_48, li_57, li_59, li_60, li_63, li_65, li_80, li_81, li_90, li_97, li_99, li_100, li_122, li_126, li_127, li_150, li_160, li_200, li_225, li_255, li_400, li_799, li_800, li_999, li_2400, li_3239, li_3240, li_1048575, li_1431655765, li_858993459, li_252645135, eqb_j, ltb_j, leb_j, inb_j, ix_j, ix_n, nz_b, nz_0, nz_1, eqb_b, bnot, vI_ne, vI_eq, gIL, gLI, gIR, gRI, gLR, gRL, Int.reduceLT, Int.reduceLE, Int.reduceEq, Int.reduceAdd, Int.reduceSub, Int.reduceMul, Int.reduceNeg, Int.reduceToNat, Nat.reduceEqDiff, reduceIte, if_neg, if_pos, gI_ne]
                  · have hne : fb_ct ms k ≠ fb_ct ms i := fun y => e (fb_ct_kth_one hm hb y)
                    rw [vI_of (show gI (sI w 69 (fb_ct ms i) (Zi i)) 69 (fb_ct ms k) = gI w 69 (fb_ct ms k) by rw [gI_eq, if_neg hne])]
                    exact h69 k (by omega) hm)
                simp (disch := omega) only [fX11_mend_32, fX11_mend_53, fX4_asks_d, fX4_asks_0, qbI_s, qbL_s, qbV_s, qbR_s, qbR_n, qbN_s, qbN_n, qbIX_s, qbIX_n, qbVX_s, qbVX_n, cond_true, cond_false, cond_dec, jadd, jsub, jmul, jneg, li_0, li_1, li_2, li_3, li_4, li_5, li_6, li_7, li_8, li_9, li_10, li_14, li_15, li_16, li_19, li_20, li_24, li_30, li_31, li_32, li_39, li_40, li_48, li_57, li_59, li_60, li_63, li_65, li_80, li_81, li_90, li_97, li_99, li_100, li_122, li_126, li_127, li_150, li_160, li_200, li_225, li_255, li_400, li_799, li_800, li_999, li_2400, li_3239, li_3240, li_1048575, li_1431655765, li_858993459, li_252645135, eqb_j, ltb_j, leb_j, inb_j, ix_j, ix_n, nz_b, nz_0, nz_1, eqb_b, bnot, vI_ne, vI_eq, gIL, gLI, gIR, gRI, gLR, gRL, Int.reduceLT, Int.reduceLE, Int.reduceEq, Int.reduceAdd, Int.reduceSub, Int.reduceMul, Int.reduceNeg, Int.reduceToNat, Nat.reduceEqDiff, reduceIte, if_neg, if_pos, gI_ne, gIv 58, w11, ld, btr, sO, hs, pk, show (-1 : Int32) = Zi (-1) from rfl]
                exact nx
              · have hb : ms i = false := by
                  rw [← Bool.not_eq_true, msI]
                  exact fun z => hs z.2
                simp (disch := omega) only [fX11_mend_32, fX11_mend_53, fX4_asks_d, fX4_asks_0, qbI_s, qbL_s, qbV_s, qbR_s, qbR_n, qbN_s, qbN_n, qbIX_s, qbIX_n, qbVX_s, qbVX_n, cond_true, cond_false, cond_dec, jadd, jsub, jmul, jneg, li_0, li_1, li_2, li_3, li_4, li_5, li_6, li_7, li_8, li_9, li_10, li_14, li_15, li_16, li_19, li_20, li_24, li_30, li_31, li_32, li_39, li_40, li_48, li_57, li_59, li_60, li_63, li_65, li_80, li_81, li_90, li_97, li_99, li_100, li_122, li_126, li_127, li_150, li_160, li_200, li_225, li_255, li_400, li_799, li_800, li_999, li_2400, li_3239, li_3240, li_1048575, li_1431655765, li_858993459, li_252645135, eqb_j, ltb_j, leb_j, inb_j, ix_j, ix_n, nz_b, nz_0, nz_1, eqb_b, bnot, vI_ne, vI_eq, gIL, gLI, gIR, gRI, gLR, gRL, Int.reduceLT, Int.reduceLE, Int.reduceEq, Int.reduceAdd, Int.reduceSub, Int.reduceMul, Int.reduceNeg, Int.reduceToNat, Nat.reduceEqDiff, reduceIte, if_neg, if_pos, gI_ne, gIv 58, w11, ld, btr, sO, show (-1 : Int32) = Zi (-1) from rfl]
                exact skip hb
        obtain ⟨y, m2, c1, c2, c3, c4, c5, c6⟩ := key32 n 0 FU (sI m1 68 7 (Zi 0)) (by omega) (by rw [FU_d]; omega) ((Fr.rf m1).wI 68 7 _ (by omega)) (by simp (disch := omega) only [qbI_s, qbL_s, qbV_s, qbR_s, qbR_n, qbN_s, qbN_n, qbIX_s, qbIX_n, qbVX_s, qbVX_n, cond_true, cond_false, cond_dec, jadd, jsub, jmul, jneg, li_0, li_1, li_2, li_3, li_4, li_5, li_6, li_7, li_8, li_9, li_10, li_14, li_15, li_16, li_19, li_20, li_24, li_30, li_31, li_32, li_39, li_40, li_48, li_57, li_59, li_60, li_63, li_65, li_80, li_81, li_90, li_97, li_99, li_100, li_122, li_126, li_127, li_150, li_160, li_200, li_225, li_255, li_400, li_799, li_800, li_999, li_2400, li_3239, li_3240, li_1048575, li_1431655765, li_858993459, li_252645135, eqb_j, ltb_j, leb_j, inb_j, ix_j, ix_n, nz_b, nz_0, nz_1, eqb_b, bnot, vI_ne, vI_eq, gIL, gLI, gIR, gRI, gLR, gRL, Int.reduceLT, Int.reduceLE, Int.reduceEq, Int.reduceAdd, Int.reduceSub, Int.reduceMul, Int.reduceNeg, Int.reduceToNat, Nat.reduceEqDiff, reduceIte, if_neg, if_pos, gI_ne]; all_goals rfl) (fun k hk => by omega)
        have cl : fX0_clear m1 = some ((), sI m1 68 7 (Zi 0)) := by
          rw [fX0_clear_d]
          simp (disch := omega) only [fX0_clear_0, qbI_s, qbL_s, qbV_s, qbR_s, qbR_n, qbN_s, qbN_n, qbIX_s, qbIX_n, qbVX_s, qbVX_n, cond_true, cond_false, cond_dec, jadd, jsub, jmul, jneg, li_0, li_1, li_2, li_3, li_4, li_5, li_6, li_7, li_8, li_9, li_10, li_14, li_15, li_16, li_19, li_20, li_24, li_30, li_31, li_32, li_39, li_40, li_48, li_57, li_59, li_60, li_63, li_65, li_80, li_81, li_90, li_97, li_99, li_100, li_122, li_126, li_127, li_150, li_160, li_200, li_225, li_255, li_400, li_799, li_800, li_999, li_2400, li_3239, li_3240, li_1048575, li_1431655765, li_858993459, li_252645135, eqb_j, ltb_j, leb_j, inb_j, ix_j, ix_n, nz_b, nz_0, nz_1, eqb_b, bnot, vI_ne, vI_eq, gIL, gLI, gIR, gRI, gLR, gRL, Int.reduceLT, Int.reduceLE, Int.reduceEq, Int.reduceAdd, Int.reduceSub, Int.reduceMul, Int.reduceNeg, Int.reduceToNat, Nat.reduceEqDiff, reduceIte, if_neg, if_pos, gI_ne]
        have eC : fX11_mend (Zi u) m = some (y, m2) := by
          have c1' : fX11_mend_32 FU (Zi u) (Zi K) (Zi 0) (sI m1 68 7 (Zi 0)) = some (y, m2) := c1
          rw [fX11_mend_d]
          simp (disch := omega) only [fX11_mend_0, qbI_s, qbL_s, qbV_s, qbR_s, qbR_n, qbN_s, qbN_n, qbIX_s, qbIX_n, qbVX_s, qbVX_n, cond_true, cond_false, cond_dec, jadd, jsub, jmul, jneg, li_0, li_1, li_2, li_3, li_4, li_5, li_6, li_7, li_8, li_9, li_10, li_14, li_15, li_16, li_19, li_20, li_24, li_30, li_31, li_32, li_39, li_40, li_48, li_57, li_59, li_60, li_63, li_65, li_80, li_81, li_90, li_97, li_99, li_100, li_122, li_126, li_127, li_150, li_160, li_200, li_225, li_255, li_400, li_799, li_800, li_999, li_2400, li_3239, li_3240, li_1048575, li_1431655765, li_858993459, li_252645135, eqb_j, ltb_j, leb_j, inb_j, ix_j, ix_n, nz_b, nz_0, nz_1, eqb_b, bnot, vI_ne, vI_eq, gIL, gLI, gIR, gRI, gLR, gRL, Int.reduceLT, Int.reduceLE, Int.reduceEq, Int.reduceAdd, Int.reduceSub, Int.reduceMul, Int.reduceNeg, Int.reduceToNat, Nat.reduceEqDiff, reduceIte, if_neg, if_pos, gI_ne, mC, gIv 0, b1, gb, btr, k1, e1, cls, cl, c1']
        -- the reference
        have q2 : ∀ c k, 84 ≤ c → gI m2 c k = gI m1 c k := fun c k hc => c4 c k (by omega)
        obtain ⟨x3, m3, e3, F3, r3⟩ := go2_s (v := m2) A1 K k2 dn1 u (by omega) k4' k5' (fun c k h1 h2 => q2 c k (by omega))
        have F3' : Fr (fun c k => 139 ≤ c ∧ c ≤ 149 ∨ c = 98 ∧ k = 70) m2 m3 := F3.wide (fun c k hc => by unfold DynF at hc; omega)
        have v3 : ∀ c k, 93 ≤ c → ¬ (139 ≤ c ∧ c ≤ 149 ∨ c = 98 ∧ k = 70) → vI m3 c k = vI m1 c k := fun c k h1 h2 => (F3'.v c k h2).trans (vI_of (q2 c k (by omega)))
        have m32 : vI m3 98 32 = n := (v3 98 32 (by omega) (by omega)).trans hn
        have key45 : ∀ (k80 : Int32 → Int32 → qM → Option (Int32 × qM)) (r i g : Nat) (w : qM), i + r = n → r < g → Fr (fun c k => c = 98 ∧ k = 43 ∨ c = 129 ∨ c = 131) m3 w → vI w 98 43 = (fb_ct ms i : Nat) → (∀ k, k < i → ms k = true → vI w 129 (fb_ct ms k) = k ∧ vI w 131 (fb_ct ms k) = vI m1 125 k) → ∃ w', fX13_mend_45 k80 g (Zi u) (Zi i) w = k80 (Zi u) (Zi 0) w' ∧ Fr (fun c k => c = 98 ∧ k = 43 ∨ c = 129 ∨ c = 131) m3 w' ∧ vI w' 98 43 = (fb_ct ms n : Nat) ∧ (∀ k, k < n → ms k = true → vI w' 129 (fb_ct ms k) = k ∧ vI w' 131 (fb_ct ms k) = vI m1 125 k) := by
          intro k80 r
          induction r with
          | zero =>
            intro i g w hi hg hF h43 h129
            obtain ⟨g, rfl⟩ : ∃ g', g = g' + 1 := ⟨g - 1, by omega⟩
            have hi' : i = n := by omega
            subst hi'
            have w32 : vI w 98 32 = i := (hF.v 98 32 (by omega)).trans m32
            refine ⟨w, ?_, hF, h43, h129⟩
            simp (disch := omega) only [fX13_mend_45, qbI_s, qbL_s, qbV_s, qbR_s, qbR_n, qbN_s, qbN_n, qbIX_s, qbIX_n, qbVX_s, qbVX_n, cond_true, cond_false, cond_dec, jadd, jsub, jmul, jneg, li_0, li_1, li_2, li_3, li_4, li_5, li_6, li_7, li_8, li_9, li_10, li_14, li_15, li_16, li_19, li_20, li_24, li_30, li_31, li_32, li_39, li_40, li_48, li_57, li_59, li_60, li_63, li_65, li_80, li_81, li_90, li_97, li_99, li_100, li_122, li_126, li_127, li_150, li_160, li_200, li_225, li_255, li_400, li_799, li_800, li_999, li_2400, li_3239, li_3240, li_1048575, li_1431655765, li_858993459, li_252645135, eqb_j, ltb_j, leb_j, inb_j, ix_j, ix_n, nz_b, nz_0, nz_1, eqb_b, bnot, vI_ne, vI_eq, gIL, gLI, gIR, gRI, gLR, gRL, Int.reduceLT, Int.reduceLE, Int.reduceEq, Int.reduceAdd, Int.reduceSub, Int.reduceMul, Int.reduceNeg, Int.reduceToNat, Nat.reduceEqDiff, reduceIte, if_neg, if_pos, gI_ne, gIv 98, w32]
          | succ r ih =>
            intro i g w hi hg hF h43 h129
            obtain ⟨g, rfl⟩ : ∃ g', g = g' + 1 := ⟨g - 1, by omega⟩
            have w32 : vI w 98 32 = n := (hF.v 98 32 (by omega)).trans m32
            have cli := fb_ct_le ms i
            have wi : vI w 149 i = _ := (hF.v 149 i (by omega)).trans (r3 i (by omega))
            have w125 : vI w 125 i = vI m1 125 i := (hF.v 125 i (by omega)).trans (v3 125 i (by omega) (by omega))
            have sr := (hD.2.2.2.2.2.2 i (by omega)).2.2.2
            cases hb : ms i
            · rw [if_neg (fun z => by have := (msI i).mpr z; rw [hb] at this; cases this)] at wi
              obtain ⟨w', i1, i2⟩ := ih (i + 1) g w (by omega) (by omega) hF (by rw [fb_ct_succ, hb]; exact h43) (fun k hk hm => by
                have : k ≠ i := fun y => (by rw [y, hb] at hm; cases hm)
                exact h129 k (by omega) hm)
              refine ⟨w', ?_, i2⟩
              rw [← i1]
              simp (disch := omega) only [fX13_mend_45, fX13_mend_76, qbI_s, qbL_s, qbV_s, qbR_s, qbR_n, qbN_s, qbN_n, qbIX_s, qbIX_n, qbVX_s, qbVX_n, cond_true, cond_false, cond_dec, jadd, jsub, jmul, jneg, li_0, li_1, li_2, li_3, li_4, li_5, li_6, li_7, li_8, li_9, li_10, li_14, li_15, li_16, li_19, li_20, li_24, li_30, li_31, li_32, li_39, li_40, li_48, li_57, li_59, li_60, li_63, li_65, li_80, li_81, li_90, li_97, li_99, li_100, li_122, li_126, li_127, li_150, li_160, li_200, li_225, li_255, li_400, li_799, li_800, li_999, li_2400, li_3239, li_3240, li_1048575, li_1431655765, li_858993459, li_252645135, eqb_j, ltb_j, leb_j, inb_j, ix_j, ix_n, nz_b, nz_0, nz_1, eqb_b, bnot, vI_ne, vI_eq, gIL, gLI, gIR, gRI, gLR, gRL, Int.reduceLT, Int.reduceLE, Int.reduceEq, Int.reduceAdd, Int.reduceSub, Int.reduceMul, Int.reduceNeg, Int.reduceToNat, Nat.reduceEqDiff, reduceIte, if_neg, if_pos, gI_ne, gIv 98, w32, gIv 149, wi]
              all_goals rfl
            · rw [if_pos ((msI i).mp hb)] at wi
              have clt : fb_ct ms i < 4 := by
                have := fb_ct_mono ms (show i + 1 ≤ n by omega)
                rw [fb_ct_succ, hb, if_pos rfl] at this
                omega
              obtain ⟨w', i1, i2⟩ := ih (i + 1) g (sI (sI (sI w 129 (fb_ct ms i) (Zi i)) 131 (fb_ct ms i) (Zi (vI m1 125 i))) 98 43 (Zi ((fb_ct ms i : Nat) + 1))) (by omega) (by omega) (((hF.wI 129 (fb_ct ms i) (Zi i) (by omega)).wI 131 _ _ (by omega)).wI 98 43 _ (by omega)) (by
                rw [fb_ct_succ, hb, if_pos rfl]
                simp (disch := omega) only [qbI_s, qbL_s, qbV_s, qbR_s, qbR_n, qbN_s, qbN_n, qbIX_s, qbIX_n, qbVX_s, qbVX_n, cond_true, cond_false, cond_dec, jadd, jsub, jmul, jneg, li_0, li_1, li_2, li_3, li_4, li_5, li_6, li_7, li_8, li_9, li_10, li_14, li_15, li_16, li_19, li_20, li_24, li_30, li_31, li_32, li_39, li_40, li_48, li_57, li_59, li_60, li_63, li_65, li_80, li_81, li_90, li_97, li_99, li_100, li_122, li_126, li_127, li_150, li_160, li_200, li_225, li_255, li_400, li_799, li_800, li_999, li_2400, li_3239, li_3240, li_1048575, li_1431655765, li_858993459, li_252645135, eqb_j, ltb_j, leb_j, inb_j, ix_j, ix_n, nz_b, nz_0, nz_1, eqb_b, bnot, vI_ne, vI_eq, gIL, gLI, gIR, gRI, gLR, gRL, Int.reduceLT, Int.reduceLE, Int.reduceEq, Int.reduceAdd, Int.reduceSub, Int.reduceMul, Int.reduceNeg, Int.reduceToNat, Nat.reduceEqDiff, reduceIte, if_neg, if_pos, gI_ne]
                all_goals rfl) (fun k hk hm => by
                have y1 : gI (sI (sI (sI w 129 (fb_ct ms i) (Zi i)) 131 (fb_ct ms i) (Zi (vI m1 125 i))) 98 43 (Zi ((fb_ct ms i : Nat) + 1))) 129 (fb_ct ms k) = gI (sI w 129 (fb_ct ms i) (Zi i)) 129 (fb_ct ms k) := by rw [gI_ne (by omega), gI_ne (by omega)]
                have y2 : gI (sI (sI (sI w 129 (fb_ct ms i) (Zi i)) 131 (fb_ct ms i) (Zi (vI m1 125 i))) 98 43 (Zi ((fb_ct ms i : Nat) + 1))) 131 (fb_ct ms k) = gI (sI (sI w 129 (fb_ct ms i) (Zi i)) 131 (fb_ct ms i) (Zi (vI m1 125 i))) 131 (fb_ct ms k) := by rw [gI_ne (by omega)]
                rw [vI_of y1, vI_of y2]
                by_cases e : k = i
                · rw [e]
                  exact ⟨by simp (disch := omega) only [qbI_s, qbL_s, qbV_s, qbR_s, qbR_n, qbN_s, qbN_n, qbIX_s, qbIX_n, qbVX_s, qbVX_n, cond_true, cond_false, cond_dec, jadd, jsub, jmul, jneg, li_0, li_1, li_2, li_3, li_4, li_5, li_6, li_7, li_8, li_9, li_10, li_14, li_15, li_16, li_19, li_20, li_24, li_30, li_31, li_32, li_39, li_40, li_48, li_57, li_59, li_60, li_63, li_65, li_80, li_81, li_90, li_97, li_99, li_100, li_122, li_126, li_127, li_150, li_160, li_200, li_225, li_255, li_400, li_799, li_800, li_999, li_2400, li_3239, li_3240, li_1048575, li_1431655765, li_858993459, li_252645135, eqb_j, ltb_j, leb_j, inb_j, ix_j, ix_n, nz_b, nz_0, nz_1, eqb_b, bnot, vI_ne, vI_eq, gIL, gLI, gIR, gRI, gLR, gRL, Int.reduceLT, Int.reduceLE, Int.reduceEq, Int.reduceAdd, Int.reduceSub, Int.reduceMul, Int.reduceNeg, Int.reduceToNat, Nat.reduceEqDiff, reduceIte, if_neg, if_pos, gI_ne], by simp (disch := omega) only [qbI_s, qbL_s, qbV_s, qbR_s, qbR_n, qbN_s, qbN_n, qbIX_s, qbIX_n, qbVX_s, qbVX_n, cond_true, cond_false, cond_dec, jadd, jsub, jmul, jneg, li_0, li_1, li_2, li_3, li_4, li_5, li_6, li_7, li_8, li_9, li_10, li_14, li_15, li_16, li_19, li_20, li_24, li_30, li_31, li_32, li_39, li_40, li_48, li_57, li_59, li_60, li_63, li_65, li_80, li_81, li_90, li_97, li_99, li_100, li_122, li_126, li_127, li_150, li_160, li_200, li_225, li_255, li_400, li_799, li_800, li_999, li_2400, li_3239, li_3240, li_1048575, li_1431655765, li_858993459, li_252645135, eqb_j, ltb_j, leb_j, inb_j, ix_j, ix_n, nz_b, nz_0, nz_1, eqb_b, bnot, vI_ne, vI_eq, gIL, gLI, gIR, gRI, gLR, gRL, Int.reduceLT, Int.reduceLE, Int.reduceEq, Int.reduceAdd, Int.reduceSub, Int.reduceMul, Int.reduceNeg, Int.reduceToNat, Nat.reduceEqDiff, reduceIte, if_neg, if_pos, gI_ne]⟩
                · have hne : fb_ct ms k ≠ fb_ct ms i := fun y => e (fb_ct_kth_one hm hb y)
                  rw [vI_of (show gI (sI w 129 (fb_ct ms i) (Zi i)) 129 (fb_ct ms k) = gI w 129 (fb_ct ms k) by rw [gI_eq, if_neg hne]), vI_of (show gI (sI (sI w 129 (fb_ct ms i) (Zi i)) 131 (fb_ct ms i) (Zi (vI m1 125 i))) 131 (fb_ct ms k) = gI w 131 (fb_ct ms k) by rw [gI_eq, if_neg hne, gI_ne (by omega)])]
                  exact h129 k (by omega) hm)
              refine ⟨w', ?_, i2⟩
              rw [← i1]
              simp (disch := omega) only [fX13_mend_45, fX13_mend_76, qbI_s, qbL_s, qbV_s, qbR_s, qbR_n, qbN_s, qbN_n, qbIX_s, qbIX_n, qbVX_s, qbVX_n, cond_true, cond_false, cond_dec, jadd, jsub, jmul, jneg, li_0, li_1, li_2, li_3, li_4, li_5, li_6, li_7, li_8, li_9, li_10, li_14, li_15, li_16, li_19, li_20, li_24, li_30, li_31, li_32, li_39, li_40, li_48, li_57, li_59, li_60, li_63, li_65, li_80, li_81, li_90, li_97, li_99, li_100, li_122, li_126, li_127, li_150, li_160, li_200, li_225, li_255, li_400, li_799, li_800, li_999, li_2400, li_3239, li_3240, li_1048575, li_1431655765, li_858993459, li_252645135, eqb_j, ltb_j, leb_j, inb_j, ix_j, ix_n, nz_b, nz_0, nz_1, eqb_b, bnot, vI_ne, vI_eq, gIL, gLI, gIR, gRI, gLR, gRL, Int.reduceLT, Int.reduceLE, Int.reduceEq, Int.reduceAdd, Int.reduceSub, Int.reduceMul, Int.reduceNeg, Int.reduceToNat, Nat.reduceEqDiff, reduceIte, if_neg, if_pos, gI_ne, gIv 98, w32, gIv 149, wi, h43, gIv 125, w125]
              all_goals rfl
        obtain ⟨w', t1, t2, t3, t4⟩ := key45 (fX13_mend_80 (fX13_mend_116 FU) FU) n 0 FU (sI m3 98 43 (Zi 0)) (by omega) (by rw [FU_d]; omega) ((Fr.rf m3).wI 98 43 _ (by omega)) (by simp (disch := omega) only [qbI_s, qbL_s, qbV_s, qbR_s, qbR_n, qbN_s, qbN_n, qbIX_s, qbIX_n, qbVX_s, qbVX_n, cond_true, cond_false, cond_dec, jadd, jsub, jmul, jneg, li_0, li_1, li_2, li_3, li_4, li_5, li_6, li_7, li_8, li_9, li_10, li_14, li_15, li_16, li_19, li_20, li_24, li_30, li_31, li_32, li_39, li_40, li_48, li_57, li_59, li_60, li_63, li_65, li_80, li_81, li_90, li_97, li_99, li_100, li_122, li_126, li_127, li_150, li_160, li_200, li_225, li_255, li_400, li_799, li_800, li_999, li_2400, li_3239, li_3240, li_1048575, li_1431655765, li_858993459, li_252645135, eqb_j, ltb_j, leb_j, inb_j, ix_j, ix_n, nz_b, nz_0, nz_1, eqb_b, bnot, vI_ne, vI_eq, gIL, gLI, gIR, gRI, gLR, gRL, Int.reduceLT, Int.reduceLE, Int.reduceEq, Int.reduceAdd, Int.reduceSub, Int.reduceMul, Int.reduceNeg, Int.reduceToNat, Nat.reduceEqDiff, reduceIte, if_neg, if_pos, gI_ne]; all_goals rfl) (fun k hk => by omega)
        have t4' : ∀ j, j < fb_ct ms n → vI w' 129 j = kth ms n j ∧ vI w' 131 j = vI m1 125 (kth ms n j) := fun j hj => by
          have h := kth_s hj
          have := t4 _ h.1 h.2.1
          rw [h.2.2] at this
          exact this
        have dw' : ∀ c k, dP c k → vI w' c k = vI m1 c k := fun c k hc => by
          have hc' : c = 98 ∧ k = 32 ∨ c = 99 ∨ 112 ≤ c ∧ c ≤ 126 := hc
          rw [t2.v c k (by omega)]
          exact v3 c k (by omega) (by omega)
        have mn20 : ∀ w, fJ9_min_7cf53 (Zi 20) (Zi ((u + vI m1 99 0 - 1) / vI m1 99 0)) w = some (Zi fr, w) := fun w => by
          rw [show (fr : Int) = min 20 ((u + vI m1 99 0 - 1) / vI m1 99 0) by omega]
          exact min_s _ _ (by omega) w
        have key80 : ∀ (r j g : Nat) (w : qM), j + r = fb_ct ms n → r < g → Fr (fun c _ => c = 125) w' w → (∀ c k, dP c k → vI w c k = dnS (vI m1) (kth ms n) j c k) → wp (fX13_mend_80 (fX13_mend_116 FU) g (Zi u) (Zi j) w) (fun y m' => y = Zi (chL (vI m1) bd (kth ms n) (fb_ct ms n)) ∧ (∀ c k, dP c k → vI m' c k = bd c k) ∧ Fr (fun c k => c = 125 ∨ c = 127 ∨ c = 128 ∨ c = 130 ∨ c = 98 ∧ 44 ≤ k ∧ k ≤ 46) w' m') := by
          intro r
          induction r with
          | zero =>
            intro j g w hj hg hF hq
            obtain ⟨g, rfl⟩ : ∃ g', g = g' + 1 := ⟨g - 1, by omega⟩
            have hj' : j = fb_ct ms n := by omega
            subst hj'
            have w43 : vI w 98 43 = (fb_ct ms n : Nat) := (hF.v 98 43 (by omega)).trans t3
            have w99 : vI w 99 0 = vI m1 99 0 := by rw [hF.v 99 0 (by omega)]; exact dw' 99 0 (by unfold dP; omega)
            obtain ⟨y2, m5, l1, l2, l3, l4⟩ := layBest_s (al := fun s => decide (fr ≤ s)) hPk w (dnS_cl _ _ hC.2.2.2.2.2.2.2.1 _) hq w43 (fun j hj => (hF.v 129 j (by omega)).trans (t4' j hj).1) fr hfr20 (fun s => rfl)
            have hRb : Reach (dnS (vI m1) (kth ms n) (fb_ct ms n)) (kth ms n) (fun s => decide (fr ≤ s)) (fb_ct ms n) bd := by
              have hB := enB_ok (d0 := dnS (vI m1) (kth ms n) (fb_ct ms n)) (p := kth ms n) (al := fun s => decide (fr ≤ s)) (N := fb_ct ms n) (fb_ct ms n) 0 (dnS (vI m1) (kth ms n) (fb_ct ms n)) (-1, dnS (vI m1) (kth ms n) (fb_ct ms n)) (by omega) rfl (Or.inl rfl)
              have hge := enB_ge (kth ms n) (fun s => decide (fr ≤ s)) (fb_ct ms n) 0 (dnS (vI m1) (kth ms n) (fb_ct ms n)) (-1, dnS (vI m1) (kth ms n) (fb_ct ms n))
              have hw := wD_r (dnS (vI m1) (kth ms n) (fb_ct ms n)) hPk.2.1
              rw [hbd]
              rcases hB with h | h
              · omega
              · exact h.2
            rw [← hbd] at l3
            have fb := hRb.f hPk (Nat.le_refl _)
            have key116 : ∀ (r j g : Nat), j + r = fb_ct ms n → r < g → fX13_mend_116 g (Zi (chL (vI m1) bd (kth ms n) j : Nat)) (Zi j) m5 = some (Zi (chL (vI m1) bd (kth ms n) (fb_ct ms n) : Nat), m5) := by
              have m43 : vI m5 98 43 = (fb_ct ms n : Nat) := (l4.v 98 43 (by omega)).trans w43
              intro r
              induction r with
              | zero =>
                intro j g hj hg
                obtain ⟨g, rfl⟩ : ∃ g', g = g' + 1 := ⟨g - 1, by omega⟩
                have hj' : j = fb_ct ms n := by omega
                subst hj'
                simp (disch := omega) only [fX13_mend_116, qbI_s, qbL_s, qbV_s, qbR_s, qbR_n, qbN_s, qbN_n, qbIX_s, qbIX_n, qbVX_s, qbVX_n, cond_true, cond_false, cond_dec, jadd, jsub, jmul, jneg, li_0, li_1, li_2, li_3, li_4, li_5, li_6, li_7, li_8, li_9, li_10, li_14, li_15, li_16, li_19, li_20, li_24, li_30, li_31, li_32, li_39, li_40, li_48, li_57, li_59, li_60, li_63, li_65, li_80, li_81, li_90, li_97, li_99, li_100, li_122, li_126, li_127, li_150, li_160, li_200, li_225, li_255, li_400, li_799, li_800, li_999, li_2400, li_3239, li_3240, li_1048575, li_1431655765, li_858993459, li_252645135, eqb_j, ltb_j, leb_j, inb_j, ix_j, ix_n, nz_b, nz_0, nz_1, eqb_b, bnot, vI_ne, vI_eq, gIL, gLI, gIR, gRI, gLR, gRL, Int.reduceLT, Int.reduceLE, Int.reduceEq, Int.reduceAdd, Int.reduceSub, Int.reduceMul, Int.reduceNeg, Int.reduceToNat, Nat.reduceEqDiff, reduceIte, if_neg, if_pos, gI_ne, gIv 98, m43]
              | succ r ih =>
                intro j g hj hg
                obtain ⟨g, rfl⟩ : ∃ g', g = g' + 1 := ⟨g - 1, by omega⟩
                have nx := ih (j + 1) g (by omega) (by omega)
                have hk := kth_s (ms := ms) (n := n) (j := j) (by omega)
                have a9 : vI m5 129 j = kth ms n j := by rw [l4.v 129 j (by omega), hF.v 129 j (by omega)]; exact (t4' j (by omega)).1
                have a31 : vI m5 131 j = vI m1 125 (kth ms n j) := by rw [l4.v 131 j (by omega), hF.v 131 j (by omega)]; exact (t4' j (by omega)).2
                have a25 : vI m5 125 (kth ms n j) = bd 125 (kth ms n j) := l3 125 _ (by unfold dP; omega)
                have o4 := (hD.2.2.2.2.2.2 (kth ms n j) (by omega)).2.2.2
                have o5 := (fb.1.2.2.2.2.2.2 (kth ms n j) (by rw [fb.2.1 98 32 (by omega), dnS_ne _ _ 32 (by omega)]; omega)).2.2.2
                have cn : chL (vI m1) bd (kth ms n) (j + 1) = chL (vI m1) bd (kth ms n) j + (if decide (bd 125 (kth ms n j) ≠ vI m1 125 (kth ms n j)) then 1 else 0) := fb_ct_succ _ _
                have cle : chL (vI m1) bd (kth ms n) j ≤ j := fb_ct_le _ _
                rw [cn] at nx
                by_cases hz : bd 125 (kth ms n j) = vI m1 125 (kth ms n j)
                · rw [decide_eq_false (fun z => z hz)] at nx
                  rw [← nx]
                  simp (disch := omega) only [fX13_mend_116, fX13_mend_136, qbI_s, qbL_s, qbV_s, qbR_s, qbR_n, qbN_s, qbN_n, qbIX_s, qbIX_n, qbVX_s, qbVX_n, cond_true, cond_false, cond_dec, jadd, jsub, jmul, jneg, li_0, li_1, li_2, li_3, li_4, li_5, li_6, li_7, li_8, li_9, li_10, li_14, li_15, li_16, li_19, li_20, li_24, li_30, li_31, li_32, li_39, li_40, li_48, li_57, li_59, li_60, li_63, li_65, li_80, li_81, li_90, li_97, li_99, li_100, li_122, li_126, li_127, li_150, li_160, li_200, li_225, li_255, li_400, li_799, li_800, li_999, li_2400, li_3239, li_3240, li_1048575, li_1431655765, li_858993459, li_252645135, eqb_j, ltb_j, leb_j, inb_j, ix_j, ix_n, nz_b, nz_0, nz_1, eqb_b, bnot, vI_ne, vI_eq, gIL, gLI, gIR, gRI, gLR, gRL, Int.reduceLT, Int.reduceLE, Int.reduceEq, Int.reduceAdd, Int.reduceSub, Int.reduceMul, Int.reduceNeg, Int.reduceToNat, Nat.reduceEqDiff, reduceIte, if_neg, if_pos, gI_ne, gIv 98, m43, gIv 129, a9, gIv 125, a25, gIv 131, a31, Int.add_zero]
                  all_goals rfl
                · rw [decide_eq_true hz] at nx
                  rw [← nx]
                  simp (disch := omega) only [fX13_mend_116, fX13_mend_136, qbI_s, qbL_s, qbV_s, qbR_s, qbR_n, qbN_s, qbN_n, qbIX_s, qbIX_n, qbVX_s, qbVX_n, cond_true, cond_false, cond_dec, jadd, jsub, jmul, jneg, li_0, li_1, li_2, li_3, li_4, li_5, li_6, li_7, li_8, li_9, li_10, li_14, li_15, li_16, li_19, li_20, li_24, li_30, li_31, li_32, li_39, li_40, li_48, li_57, li_59, li_60, li_63, li_65, li_80, li_81, li_90, li_97, li_99, li_100, li_122, li_126, li_127, li_150, li_160, li_200, li_225, li_255, li_400, li_799, li_800, li_999, li_2400, li_3239, li_3240, li_1048575, li_1431655765, li_858993459, li_252645135, eqb_j, ltb_j, leb_j, inb_j, ix_j, ix_n, nz_b, nz_0, nz_1, eqb_b, bnot, vI_ne, vI_eq, gIL, gLI, gIR, gRI, gLR, gRL, Int.reduceLT, Int.reduceLE, Int.reduceEq, Int.reduceAdd, Int.reduceSub, Int.reduceMul, Int.reduceNeg, Int.reduceToNat, Nat.reduceEqDiff, reduceIte, if_neg, if_pos, gI_ne, gIv 98, m43, gIv 129, a9, gIv 125, a25, gIv 131, a31]
                  all_goals rfl
            have k116 : fX13_mend_116 FU (Zi 0) (Zi 0) m5 = some (Zi (chL (vI m1) bd (kth ms n) (fb_ct ms n) : Nat), m5) := key116 (fb_ct ms n) 0 FU (by omega) (by rw [FU_d]; omega)
            refine wp_e (x := Zi (chL (vI m1) bd (kth ms n) (fb_ct ms n) : Nat)) (m := m5) ?_ ⟨rfl, l3, (hF.wide (fun c k hc => by omega)).tr l4⟩
            simp (disch := omega) only [fX13_mend_80, qbI_s, qbL_s, qbV_s, qbR_s, qbR_n, qbN_s, qbN_n, qbIX_s, qbIX_n, qbVX_s, qbVX_n, cond_true, cond_false, cond_dec, jadd, jsub, jmul, jneg, li_0, li_1, li_2, li_3, li_4, li_5, li_6, li_7, li_8, li_9, li_10, li_14, li_15, li_16, li_19, li_20, li_24, li_30, li_31, li_32, li_39, li_40, li_48, li_57, li_59, li_60, li_63, li_65, li_80, li_81, li_90, li_97, li_99, li_100, li_122, li_126, li_127, li_150, li_160, li_200, li_225, li_255, li_400, li_799, li_800, li_999, li_2400, li_3239, li_3240, li_1048575, li_1431655765, li_858993459, li_252645135, eqb_j, ltb_j, leb_j, inb_j, ix_j, ix_n, nz_b, nz_0, nz_1, eqb_b, bnot, vI_ne, vI_eq, gIL, gLI, gIR, gRI, gLR, gRL, Int.reduceLT, Int.reduceLE, Int.reduceEq, Int.reduceAdd, Int.reduceSub, Int.reduceMul, Int.reduceNeg, Int.reduceToNat, Nat.reduceEqDiff, reduceIte, if_neg, if_pos, gI_ne, gIv 98, w43, gIv 99, w99, jdiv, mn20, l1, k116]
          | succ r ih =>
            intro j g w hj hg hF hq
            obtain ⟨g, rfl⟩ : ∃ g', g = g' + 1 := ⟨g - 1, by omega⟩
            have w43 : vI w 98 43 = (fb_ct ms n : Nat) := (hF.v 98 43 (by omega)).trans t3
            have a9 : vI w 129 j = kth ms n j := (hF.v 129 j (by omega)).trans (t4' j (by omega)).1
            have hk := kth_s (ms := ms) (n := n) (j := j) (by omega)
            have nx := ih (j + 1) g (sI w 125 (kth ms n j) (Zi (-1))) (by omega) (by omega) (hF.wI 125 _ _ rfl) (fun c k hc => by
              by_cases e : c = 125
              · rw [e, dnS, upS_eq]
                by_cases ek : k = kth ms n j
                · rw [if_pos ek, ek]
                  simp (disch := omega) only [qbI_s, qbL_s, qbV_s, qbR_s, qbR_n, qbN_s, qbN_n, qbIX_s, qbIX_n, qbVX_s, qbVX_n, cond_true, cond_false, cond_dec, jadd, jsub, jmul, jneg, li_0, li_1, li_2, li_3, li_4, li_5, li_6, li_7, li_8, li_9, li_10, li_14, li_15, li_16, li_19, li_20, li_24, li_30, li_31, li_32, li_39, li_40, li_48, li_57, li_59, li_60, li_63, li_65, li_80, li_81, li_90, li_97, li_99, li_100, li_122, li_126, li_127, li_150, li_160, li_200, li_225, li_255, li_400, li_799, li_800, li_999, li_2400, li_3239, li_3240, li_1048575, li_1431655765, li_858993459, li_252645135, eqb_j, ltb_j, leb_j, inb_j, ix_j, ix_n, nz_b, nz_0, nz_1, eqb_b, bnot, vI_ne, vI_eq, gIL, gLI, gIR, gRI, gLR, gRL, Int.reduceLT, Int.reduceLE, Int.reduceEq, Int.reduceAdd, Int.reduceSub, Int.reduceMul, Int.reduceNeg, Int.reduceToNat, Nat.reduceEqDiff, reduceIte, if_neg, if_pos, gI_ne]
                · rw [if_neg ek, vI_of (show gI (sI w 125 (kth ms n j) (Zi (-1))) 125 k = gI w 125 k by rw [gI_eq, if_neg ek])]
                  exact hq 125 k (by unfold dP; omega)
              · rw [vI_ne e, dnS, upS_ne _ _ _ e]
                exact hq c k hc)
            simp (disch := omega) only [fX13_mend_80, qbI_s, qbL_s, qbV_s, qbR_s, qbR_n, qbN_s, qbN_n, qbIX_s, qbIX_n, qbVX_s, qbVX_n, cond_true, cond_false, cond_dec, jadd, jsub, jmul, jneg, li_0, li_1, li_2, li_3, li_4, li_5, li_6, li_7, li_8, li_9, li_10, li_14, li_15, li_16, li_19, li_20, li_24, li_30, li_31, li_32, li_39, li_40, li_48, li_57, li_59, li_60, li_63, li_65, li_80, li_81, li_90, li_97, li_99, li_100, li_122, li_126, li_127, li_150, li_160, li_200, li_225, li_255, li_400, li_799, li_800, li_999, li_2400, li_3239, li_3240, li_1048575, li_1431655765, li_858993459, li_252645135, eqb_j, ltb_j, leb_j, inb_j, ix_j, ix_n, nz_b, nz_0, nz_1, eqb_b, bnot, vI_ne, vI_eq, gIL, gLI, gIR, gRI, gLR, gRL, Int.reduceLT, Int.reduceLE, Int.reduceEq, Int.reduceAdd, Int.reduceSub, Int.reduceMul, Int.reduceNeg, Int.reduceToNat, Nat.reduceEqDiff, reduceIte, if_neg, if_pos, gI_ne, gIv 98, w43, gIv 129, a9, show (-1 : Int32) = Zi (-1) from rfl]
            exact nx
        obtain ⟨y9, m9, z1, z2, z3, z4⟩ := key80 (fb_ct ms n) 0 FU w' (by omega) (by rw [FU_d]; omega) (Fr.rf w') dw'
        have q9 : ∀ c k, ¬ (c = 98 ∧ 43 ≤ k ∧ k ≤ 49 ∨ c = 98 ∧ k = 70 ∨ c = 125 ∨ 127 ≤ c ∧ c ≤ 131 ∨ 139 ≤ c ∧ c ≤ 150) → gI m9 c k = gI m2 c k := fun c k hc => ((z4.1 c k (by omega)).trans (t2.1 c k (by omega))).trans (F3'.1 c k (by omega))
        have hC9 : CAll m9 (vI m9) := c3.congr (fun c k hc => q9 c k (by omega)) z3
        have hR9 : R0 m9 := R0.mend A1.1 gb1 (fun c k hc => (q9 c k (by omega)).trans (c4 c k (by omega))) (((z4.2.2.trans t2.2.2).trans F3'.2.2).trans c5) hC9
        refine ⟨y, m2, m9, eC, ?_, hR9, fun j hj hd => absurd ?_ hd⟩
        · have mM2 := mM_s u hu0 m2
          rw [decide_eq_true g2] at mM2
          have gb2 : vI m2 98 33 = 1 := by rw [vI_of (q2 98 33 (by omega))]; exact gb1
          have k18 : fX13_mend_18 (fX13_mend_45 (fX13_mend_80 (fX13_mend_116 FU) FU) FU) FU (Zi u) (Zi 0) (Zi 0) m3 = _ := key18 m3 m32 (fun a ha => r3 a (by omega)) (fX13_mend_45 (fX13_mend_80 (fX13_mend_116 FU) FU) FU) n 0 FU (by omega) (by rw [FU_d]; omega)
          rw [if_pos g4] at k18
          have t1' : fX13_mend_45 (fX13_mend_80 (fX13_mend_116 FU) FU) FU (Zi u) (Zi 0) (sI m3 98 43 (Zi 0)) = _ := t1
          rw [fX13_mend_d]
          simp (disch := omega) only [fX13_mend_0, qbI_s, qbL_s, qbV_s, qbR_s, qbR_n, qbN_s, qbN_n, qbIX_s, qbIX_n, qbVX_s, qbVX_n, cond_true, cond_false, cond_dec, jadd, jsub, jmul, jneg, li_0, li_1, li_2, li_3, li_4, li_5, li_6, li_7, li_8, li_9, li_10, li_14, li_15, li_16, li_19, li_20, li_24, li_30, li_31, li_32, li_39, li_40, li_48, li_57, li_59, li_60, li_63, li_65, li_80, li_81, li_90, li_97, li_99, li_100, li_122, li_126, li_127, li_150, li_160, li_200, li_225, li_255, li_400, li_799, li_800, li_999, li_2400, li_3239, li_3240, li_1048575, li_1431655765, li_858993459, li_252645135, eqb_j, ltb_j, leb_j, inb_j, ix_j, ix_n, nz_b, nz_0, nz_1, eqb_b, bnot, vI_ne, vI_eq, gIL, gLI, gIR, gRI, gLR, gRL, Int.reduceLT, Int.reduceLE, Int.reduceEq, Int.reduceAdd, Int.reduceSub, Int.reduceMul, Int.reduceNeg, Int.reduceToNat, Nat.reduceEqDiff, reduceIte, if_neg, if_pos, gI_ne, mM2, gIv 98, gb2, btr, e3, k18, t1']
          have z1' : fX13_mend_80 (fX13_mend_116 FU) FU (Zi u) (Zi 0) w' = some (y9, m9) := z1
          rw [z1', z2, c2]
        · rw [vI_of (q9 83 j (by omega))]
          exact c6 j hj
      · -- too many
        obtain ⟨x3, m3, e3, F3, q3, g3, r3⟩ := go_s (v := m1) A1 gb1 K k2 dn1 u (by omega) k4' k5' (fun c k _ => rfl) rfl
        have mM2 := mM_s u hu0 m1
        rw [decide_eq_true g2] at mM2
        have m32 : vI m3 98 32 = n := by rw [vI_of (q3 98 32 (by omega))]; exact hn
        have k18 : fX13_mend_18 (fX13_mend_45 (fX13_mend_80 (fX13_mend_116 FU) FU) FU) FU (Zi u) (Zi 0) (Zi 0) m3 = _ := key18 m3 m32 (fun a ha => (r3 a (by omega)).2.1) (fX13_mend_45 (fX13_mend_80 (fX13_mend_116 FU) FU) FU) n 0 FU (by omega) (by rw [FU_d]; omega)
        rw [if_neg g4] at k18
        refine ⟨Zi (-3), m1, m3, ?_, ?_, RAll.go A1 gb1 q3 g3⟩
        · rw [fX11_mend_d]
          simp (disch := omega) only [fX11_mend_0, qbI_s, qbL_s, qbV_s, qbR_s, qbR_n, qbN_s, qbN_n, qbIX_s, qbIX_n, qbVX_s, qbVX_n, cond_true, cond_false, cond_dec, jadd, jsub, jmul, jneg, li_0, li_1, li_2, li_3, li_4, li_5, li_6, li_7, li_8, li_9, li_10, li_14, li_15, li_16, li_19, li_20, li_24, li_30, li_31, li_32, li_39, li_40, li_48, li_57, li_59, li_60, li_63, li_65, li_80, li_81, li_90, li_97, li_99, li_100, li_122, li_126, li_127, li_150, li_160, li_200, li_225, li_255, li_400, li_799, li_800, li_999, li_2400, li_3239, li_3240, li_1048575, li_1431655765, li_858993459, li_252645135, eqb_j, ltb_j, leb_j, inb_j, ix_j, ix_n, nz_b, nz_0, nz_1, eqb_b, bnot, vI_ne, vI_eq, gIL, gLI, gIR, gRI, gLR, gRL, Int.reduceLT, Int.reduceLE, Int.reduceEq, Int.reduceAdd, Int.reduceSub, Int.reduceMul, Int.reduceNeg, Int.reduceToNat, Nat.reduceEqDiff, reduceIte, if_neg, if_pos, gI_ne, mC, gIv 0, b1, gb, btr, k1, e1, cls]
          all_goals rfl
        · rw [fX13_mend_d]
          simp (disch := omega) only [fX13_mend_0, qbI_s, qbL_s, qbV_s, qbR_s, qbR_n, qbN_s, qbN_n, qbIX_s, qbIX_n, qbVX_s, qbVX_n, cond_true, cond_false, cond_dec, jadd, jsub, jmul, jneg, li_0, li_1, li_2, li_3, li_4, li_5, li_6, li_7, li_8, li_9, li_10, li_14, li_15, li_16, li_19, li_20, li_24, li_30, li_31, li_32, li_39, li_40, li_48, li_57, li_59, li_60, li_63, li_65, li_80, li_81, li_90, li_97, li_99, li_100, li_122, li_126, li_127, li_150, li_160, li_200, li_225, li_255, li_400, li_799, li_800, li_999, li_2400, li_3239, li_3240, li_1048575, li_1431655765, li_858993459, li_252645135, eqb_j, ltb_j, leb_j, inb_j, ix_j, ix_n, nz_b, nz_0, nz_1, eqb_b, bnot, vI_ne, vI_eq, gIL, gLI, gIR, gRI, gLR, gRL, Int.reduceLT, Int.reduceLE, Int.reduceEq, Int.reduceAdd, Int.reduceSub, Int.reduceMul, Int.reduceNeg, Int.reduceToNat, Nat.reduceEqDiff, reduceIte, if_neg, if_pos, gI_ne, mM2, gIv 98, gb1, btr, e3, k18]
    · have gb0 : vI m 98 33 = 0 := by omega
      have mM := mM_s u hu0 m
      rw [decide_eq_true g2] at mM
      refine QOp.all h (QOp.same (x := Zi (-4)) hR ?_ ?_)
      · rw [fX11_mend_d]
        simp (disch := omega) only [fX11_mend_0, qbI_s, qbL_s, qbV_s, qbR_s, qbR_n, qbN_s, qbN_n, qbIX_s, qbIX_n, qbVX_s, qbVX_n, cond_true, cond_false, cond_dec, jadd, jsub, jmul, jneg, li_0, li_1, li_2, li_3, li_4, li_5, li_6, li_7, li_8, li_9, li_10, li_14, li_15, li_16, li_19, li_20, li_24, li_30, li_31, li_32, li_39, li_40, li_48, li_57, li_59, li_60, li_63, li_65, li_80, li_81, li_90, li_97, li_99, li_100, li_122, li_126, li_127, li_150, li_160, li_200, li_225, li_255, li_400, li_799, li_800, li_999, li_2400, li_3239, li_3240, li_1048575, li_1431655765, li_858993459, li_252645135, eqb_j, ltb_j, leb_j, inb_j, ix_j, ix_n, nz_b, nz_0, nz_1, eqb_b, bnot, vI_ne, vI_eq, gIL, gLI, gIR, gRI, gLR, gRL, Int.reduceLT, Int.reduceLE, Int.reduceEq, Int.reduceAdd, Int.reduceSub, Int.reduceMul, Int.reduceNeg, Int.reduceToNat, Nat.reduceEqDiff, reduceIte, if_neg, if_pos, gI_ne, mC, gIv 0, b1, gb0, btr, show (-4 : Int32) = Zi (-4) from rfl]
      · rw [fX13_mend_d]
        simp (disch := omega) only [fX13_mend_0, qbI_s, qbL_s, qbV_s, qbR_s, qbR_n, qbN_s, qbN_n, qbIX_s, qbIX_n, qbVX_s, qbVX_n, cond_true, cond_false, cond_dec, jadd, jsub, jmul, jneg, li_0, li_1, li_2, li_3, li_4, li_5, li_6, li_7, li_8, li_9, li_10, li_14, li_15, li_16, li_19, li_20, li_24, li_30, li_31, li_32, li_39, li_40, li_48, li_57, li_59, li_60, li_63, li_65, li_80, li_81, li_90, li_97, li_99, li_100, li_122, li_126, li_127, li_150, li_160, li_200, li_225, li_255, li_400, li_799, li_800, li_999, li_2400, li_3239, li_3240, li_1048575, li_1431655765, li_858993459, li_252645135, eqb_j, ltb_j, leb_j, inb_j, ix_j, ix_n, nz_b, nz_0, nz_1, eqb_b, bnot, vI_ne, vI_eq, gIL, gLI, gIR, gRI, gLR, gRL, Int.reduceLT, Int.reduceLE, Int.reduceEq, Int.reduceAdd, Int.reduceSub, Int.reduceMul, Int.reduceNeg, Int.reduceToNat, Nat.reduceEqDiff, reduceIte, if_neg, if_pos, gI_ne, mM, gIv 98, gb0, btr, show (-4 : Int32) = Zi (-4) from rfl]
  · have mM := mM_s u hu0 m
    rw [decide_eq_false g2] at mC mM
    refine QOp.all h (QOp.same (x := Zi (-2)) hR ?_ ?_)
    · rw [fX11_mend_d]
      simp (disch := omega) only [fX11_mend_0, qbI_s, qbL_s, qbV_s, qbR_s, qbR_n, qbN_s, qbN_n, qbIX_s, qbIX_n, qbVX_s, qbVX_n, cond_true, cond_false, cond_dec, jadd, jsub, jmul, jneg, li_0, li_1, li_2, li_3, li_4, li_5, li_6, li_7, li_8, li_9, li_10, li_14, li_15, li_16, li_19, li_20, li_24, li_30, li_31, li_32, li_39, li_40, li_48, li_57, li_59, li_60, li_63, li_65, li_80, li_81, li_90, li_97, li_99, li_100, li_122, li_126, li_127, li_150, li_160, li_200, li_225, li_255, li_400, li_799, li_800, li_999, li_2400, li_3239, li_3240, li_1048575, li_1431655765, li_858993459, li_252645135, eqb_j, ltb_j, leb_j, inb_j, ix_j, ix_n, nz_b, nz_0, nz_1, eqb_b, bnot, vI_ne, vI_eq, gIL, gLI, gIR, gRI, gLR, gRL, Int.reduceLT, Int.reduceLE, Int.reduceEq, Int.reduceAdd, Int.reduceSub, Int.reduceMul, Int.reduceNeg, Int.reduceToNat, Nat.reduceEqDiff, reduceIte, if_neg, if_pos, gI_ne, mC, bf, show (-2 : Int32) = Zi (-2) from rfl]
    · rw [fX13_mend_d]
      simp (disch := omega) only [fX13_mend_0, qbI_s, qbL_s, qbV_s, qbR_s, qbR_n, qbN_s, qbN_n, qbIX_s, qbIX_n, qbVX_s, qbVX_n, cond_true, cond_false, cond_dec, jadd, jsub, jmul, jneg, li_0, li_1, li_2, li_3, li_4, li_5, li_6, li_7, li_8, li_9, li_10, li_14, li_15, li_16, li_19, li_20, li_24, li_30, li_31, li_32, li_39, li_40, li_48, li_57, li_59, li_60, li_63, li_65, li_80, li_81, li_90, li_97, li_99, li_100, li_122, li_126, li_127, li_150, li_160, li_200, li_225, li_255, li_400, li_799, li_800, li_999, li_2400, li_3239, li_3240, li_1048575, li_1431655765, li_858993459, li_252645135, eqb_j, ltb_j, leb_j, inb_j, ix_j, ix_n, nz_b, nz_0, nz_1, eqb_b, bnot, vI_ne, vI_eq, gIL, gLI, gIR, gRI, gLR, gRL, Int.reduceLT, Int.reduceLE, Int.reduceEq, Int.reduceAdd, Int.reduceSub, Int.reduceMul, Int.reduceNeg, Int.reduceToNat, Nat.reduceEqDiff, reduceIte, if_neg, if_pos, gI_ne, mM, bf, show (-2 : Int32) = Zi (-2) from rfl]
