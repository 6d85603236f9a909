/-! the evening: what a policy asks -/
theorem ctBij (P : Nat → Bool) (sl : Nat → Int) (B : Nat) : ∀ n : Nat, (∀ a, a < n → P a = true → 0 ≤ sl a ∧ sl a < B) → (∀ a b, a < n → b < n → P a = true → P b = true → sl a = sl b → a = b) → fb_ct (fun b => pd (∃ a : Nat, a < n ∧ P a = true ∧ sl a = (b : Int))) B = fb_ct P n := by
  intro n
  induction n with
  | zero =>
    intro _ _
    rw [show fb_ct P 0 = 0 from rfl]
    exact fb_ct_zero.mpr fun k _ => pd_f fun ⟨a, h, _⟩ => Nat.not_lt_zero a h
  | succ n ih =>
    intro h1 h2
    have ih := ih (fun a ha => h1 a (by omega)) (fun a b ha hb => h2 a b (by omega) (by omega))
    rw [fb_ct_succ P n]
    cases hc : P n
    · have e : fb_ct (fun b => pd (∃ a : Nat, a < n + 1 ∧ P a = true ∧ sl a = (b : Int))) B = fb_ct (fun b => pd (∃ a : Nat, a < n ∧ P a = true ∧ sl a = (b : Int))) B := by
        refine fb_ct_cong fun k _ => ?_
        rw [Bool.eq_iff_iff, pd_iff, pd_iff]
        constructor
        · rintro ⟨a, g1, g2, g3⟩
          exact ⟨a, by have : a ≠ n := fun z => (by rw [z, hc] at g2; cases g2)
                       omega, g2, g3⟩
        · rintro ⟨a, g1, g2, g3⟩
          exact ⟨a, by omega, g2, g3⟩
      rw [e, ih]
      rfl
    · have hr := h1 n (by omega) hc
      obtain ⟨q, hq⟩ : ∃ q : Nat, sl n = q := ⟨(sl n).toNat, by omega⟩
      have e : fb_ct (fun b => pd (∃ a : Nat, a < n + 1 ∧ P a = true ∧ sl a = (b : Int))) B = fb_ct (fun b => if b = q then true else pd (∃ a : Nat, a < n ∧ P a = true ∧ sl a = (b : Int))) B := by
        refine fb_ct_cong fun k _ => ?_
        by_cases hk : k = q
        · rw [if_pos hk]
          exact pd_t ⟨n, by omega, hc, by omega⟩
        · rw [if_neg hk, Bool.eq_iff_iff, pd_iff, pd_iff]
          constructor
          · rintro ⟨a, g1, g2, g3⟩
            exact ⟨a, by have : a ≠ n := fun z => hk (by rw [z] at g3; omega)
                         omega, g2, g3⟩
          · rintro ⟨a, g1, g2, g3⟩
            exact ⟨a, by omega, g2, g3⟩
      have h9 := fb_ct_upd (fun b => pd (∃ a : Nat, a < n ∧ P a = true ∧ sl a = (b : Int))) true (show q < B by omega)
      have z : pd (∃ a : Nat, a < n ∧ P a = true ∧ sl a = (q : Int)) = false := pd_f fun ⟨a, g1, g2, g3⟩ => by
        have := h2 a n (by omega) (by omega) g2 hc (by omega)
        omega
      rw [e, if_pos rfl, ← ih]
      simp only [z, Bool.false_eq_true, if_false, if_true, Nat.add_zero] at h9
      exact h9
noncomputable def wtP (d s : Nat → Nat → Int) (t : Nat) (u : Int) (a : Nat) : Bool := pd (opn d s a ∧ d 124 a = t ∧ d 99 0 * d 125 a ≤ u ∧ hrB d s a u = true)
noncomputable def lfP (d s : Nat → Nat → Int) (t : Nat) (a : Nat) : Bool := pd (opn d s a ∧ d 124 a = t)
noncomputable def factV (d s : Nat → Nat → Int) (a : Nat) (u : Int) (k : Nat) : Int := if k = 0 then u - d 99 0 * d 125 a else if k = 1 then fb_ct (wtP d s (d 124 a).toNat u) (d 98 32).toNat else if k = 2 then fb_ct (lfP d s (d 124 a).toNat) (d 98 32).toNat else if k = 3 then d 126 a else if k = 4 then bI (hrB d s a u) else d 125 a
theorem min_r {d : Nat → Nat → Int} (hD : DOk d) (a : Nat) (ha : (a : Int) < d 98 32) (h : d 125 a ≠ -1) : 0 ≤ d 99 0 * d 125 a ∧ d 99 0 * d 125 a ≤ 570 := by
  have h1 := hD.1.1
  have h2 := (hD.2.2.2.2.2.2 a ha).2.2.2
  have h3 : d 99 0 * d 125 a ≤ 30 * 19 := Int.mul_le_mul h1.2 h2.2 (by omega) (by omega)
  have h4 : 0 ≤ d 99 0 * d 125 a := Int.mul_nonneg (by omega) (by omega)
  omega
theorem factV_r {d s : Nat → Nat → Int} (hD : DOk d) (a : Nat) (ha : opn d s a) (u : Int) (hu : 0 ≤ u ∧ u ≤ 799) (k : Nat) : -600 ≤ factV d s a u k ∧ factV d s a u k ≤ 800 := by
  have h1 := min_r hD a ha.1 ha.2.1
  have h2 := fb_ct_le (wtP d s (d 124 a).toNat u) (d 98 32).toNat
  have h3 := fb_ct_le (lfP d s (d 124 a).toNat) (d 98 32).toNat
  have n2 := hD.2.2.2.2.2.1
  have h4 := hD.2.2.2.2.2.2 a ha.1
  have h5 := bI_r (hrB d s a u)
  unfold factV
  split
  · omega
  · split
    · omega
    · split
      · omega
      · split
        · omega
        · split <;> omega
theorem opS_bij {m0 : qM} (hR : R0 m0) (s : Nat → Nat → Int) (t : Nat) (P : Nat → Bool) (hP : ∀ a, P a = true → opn (vI m0) s a ∧ vI m0 124 a = t) : fb_ct (fun b => pd (∃ a : Nat, P a = true ∧ vI m0 125 a = (b : Int))) 20 = fb_ct P (vI m0 98 32).toNat := by
  have hA := CAll.of hR
  have hD := DOk.of hA
  have hCl := hA.2.2.2.2.2.2.2.1
  have n1 := hD.2.2.2.2.1
  rw [← ctBij P (fun a => vI m0 125 a) 20 (vI m0 98 32).toNat (fun a ha h => by
    have h1 := (hP a h).1
    have := (hD.2.2.2.2.2.2 a h1.1).2.2.2
    have := h1.2.1
    show 0 ≤ vI m0 125 a ∧ vI m0 125 a < 20
    omega) (fun a b ha hb h1 h2 h3 => by
    refine Classical.byContradiction fun e => ?_
    have g1 := hP a h1
    have g2 := hP b h2
    exact (hCl a b g1.1.1 g2.1.1 e g1.1.2.1 h3).2.1 (by rw [g1.2, g2.2]))]
  refine fb_ct_cong fun k _ => ?_
  rw [Bool.eq_iff_iff, pd_iff, pd_iff]
  constructor
  · rintro ⟨a, h1, h2⟩
    exact ⟨a, by have := (hP a h1).1.1; omega, h1, h2⟩
  · rintro ⟨a, h0, h1, h2⟩
    exact ⟨a, h1, h2⟩
theorem CS.keep {m0 w w' : qM} {s : Nat → Nat → Int} {K : Nat} (h : CS m0 s K w) (hF : Fr (fun c _ => c = 84 ∨ c = 86) w w') : CS m0 s K w' := by
  obtain ⟨h1, h2, h3, h4, h5, h6, h7, h8⟩ := h
  refine ⟨h1.tr (hF.wide fun c k hc => by unfold evF; omega), by rw [hF.v 80 9 (by omega), hF.v 80 8 (by omega)]; exact h2, fun t b ht hb => by rw [hF.1 85 t (by omega)]; exact h3 t b ht hb, fun f hf => by rw [hF.v 87 f (by omega), hF.v 88 f (by omega), hF.v 92 f (by omega)]; exact h4 f hf, fun k hk => by rw [hF.v 89 k (by omega)]; exact h5 k hk, fun a ha => by rw [hF.v 90 a (by omega), hF.v 91 a (by omega), hF.v 81 _ (by omega), hF.v 82 _ (by omega)]; exact h6 a ha, fun j hj => by rw [hF.1 81 j (by omega), hF.1 82 j (by omega)]; exact h7 j hj, fun j => by rw [hF.1 83 j (by omega)]; exact h8 j⟩
/-- the class's ask in a slot of a teacher -/
theorem evAt {m0 w : qM} (hR : R0 m0) (hF : Fr evF m0 w) (s : Nat → Nat → Int) (a t b : Nat) (ha : opn (vI m0) s a) (ht : vI m0 124 a = t) (hb : vI m0 125 a = b) (h1 : t < 10) (h2 : b < 20) : fX4_askIn (Zi t) (Zi b) w = some (Zi a, w) := by
  have hA := CS.all hR hF
  have h := (hA.2.2.2.2.2.2.2.2.1 t b h1 h2).1 a ha.1 ht hb
  rw [evIn hA t b h1 h2, h]
theorem gatherC {m0 w : qM} (hR : R0 m0) {s : Nat → Nat → Int} {K : Nat} (hS : SI (vI m0) s) (h : CS m0 s K w) (a : Nat) (ha : opn (vI m0) s a) (u : Int) (hu : 0 ≤ u ∧ u ≤ 799) : wp (fX1_gatherFacts (Zi a) (Zi u) w) (fun _ w' => Fr (fun c _ => c = 84) w w' ∧ ∀ k, k < 6 → vI w' 84 k = factV (vI m0) s a u k) := by
  have hA := CS.all hR h.1
  have hD := DOk.of hA
  have a1 := ha.1
  have n1 := hD.2.2.2.2.1
  have n2 := hD.2.2.2.2.2.1
  have r0 := hD.1.1
  obtain ⟨k1, k2, k3, k4⟩ := hD.2.2.2.2.2.2 a a1
  obtain ⟨t, ht⟩ : ∃ t : Nat, vI m0 124 a = t := ⟨(vI m0 124 a).toNat, by omega⟩
  have ht10 : t < 10 := by omega
  have mr := min_r hD a a1 ha.2.1
  have tA := evTea hA a a1
  rw [ht] at tA
  have mA := evMin hA
  obtain ⟨W, hW⟩ : ∃ W : Nat → Bool, W = fun b : Nat => pd (∃ o : Nat, wtP (vI m0) s t u o = true ∧ vI m0 125 o = (b : Int)) := ⟨_, rfl⟩
  have hW20 : fb_ct W 20 = fb_ct (wtP (vI m0) s t u) (vI m0 98 32).toNat := by
    rw [hW]
    exact opS_bij hR s t _ (fun o ho => by unfold wtP at ho; rw [pd_iff] at ho; exact ⟨ho.1, ho.2.1⟩)
  have ir : ∀ i : Nat, i ≤ 20 → 0 ≤ (i : Int) * vI m0 99 0 ∧ (i : Int) * vI m0 99 0 ≤ 600 := fun i hi => by
    have h3 : (i : Int) * vI m0 99 0 ≤ 20 * 30 := Int.mul_le_mul (by omega) r0.2 (by omega) (by omega)
    have h4 : 0 ≤ (i : Int) * vI m0 99 0 := Int.mul_nonneg (by omega) (by omega)
    omega
  have loop : ∀ (r i g : Nat), i + r = 20 → r < g → fX1_gatherFacts_13 fX1_gatherFacts_40 g (Zi a) (Zi u) (Zi t) (Zi (vI m0 99 0)) (Zi (fb_ct W i)) (Zi i) w = fX1_gatherFacts_40 (Zi a) (Zi u) (Zi t) (Zi (vI m0 99 0)) (Zi (fb_ct W 20)) w := by
    intro r
    induction r with
    | zero =>
      intro i g hi hg
      obtain ⟨g, rfl⟩ : ∃ g', g = g' + 1 := ⟨g - 1, by omega⟩
      have : i = 20 := by omega
      subst this
      simp (disch := omega) only [fX1_gatherFacts_13, qbI_s, qbL_s, qbV_s, qbR_s, qbR_n, qbN_s, qbN_n, qbIX_s, qbIX_n, qbVX_s, qbVX_n, cond_true, cond_false, cond_dec, jadd, jsub, jmul, jneg, li_0, li_1, li_2, li_3, li_4, li_5, li_6, li_7, li_8, li_9, li_10, li_14, li_15, li_16, li_19, li_20, li_24, li_30, li_31, li_32, li_39, li_40, li_48, li_57, li_59, li_60, li_63, li_65, li_80, li_81, li_90, li_97, li_99, li_100, li_122, li_126, li_127, li_150, li_160, li_200, li_225, li_255, li_400, li_799, li_800, li_999, li_2400, li_3239, li_3240, li_1048575, li_1431655765, li_858993459, li_252645135, eqb_j, ltb_j, leb_j, inb_j, ix_j, ix_n, nz_b, nz_0, nz_1, eqb_b, bnot, vI_ne, vI_eq, gIL, gLI, gIR, gRI, gLR, gRL, Int.reduceLT, Int.reduceLE, Int.reduceEq, Int.reduceAdd, Int.reduceSub, Int.reduceMul, Int.reduceNeg, Int.reduceToNat, Nat.reduceEqDiff, reduceIte, if_neg, if_pos, gI_ne]
    | succ r ih =>
      intro i g hi hg
      obtain ⟨g, rfl⟩ : ∃ g', g = g' + 1 := ⟨g - 1, by omega⟩
      have ih2 := ih (i + 1) g (by omega) (by omega)
      have hir := ir i (by omega)
      rw [fb_ct_succ] at ih2
      have hct := fb_ct_le W i
      by_cases g1 : u < (i : Int) * vI m0 99 0
      · have hz : fb_ct W 20 = fb_ct W i := by
          have h20 : 20 = i + (20 - i) := by omega
          rw [h20, fb_ct_split]
          have : fb_ct (fun k => W (i + k)) (20 - i) = 0 := fb_ct_zero.mpr fun k _ => by
            rw [hW]
            refine pd_f fun ⟨o, o1, o2⟩ => ?_
            unfold wtP at o1
            rw [pd_iff] at o1
            have h5 := o1.2.2.1
            rw [o2, Int.mul_comm] at h5
            have h6 : (i : Int) * vI m0 99 0 ≤ ((i + k : Nat) : Int) * vI m0 99 0 := Int.mul_le_mul_of_nonneg_right (by omega) (by omega)
            omega
          omega
        rw [hz]
        simp (disch := omega) only [fX1_gatherFacts_13, qbI_s, qbL_s, qbV_s, qbR_s, qbR_n, qbN_s, qbN_n, qbIX_s, qbIX_n, qbVX_s, qbVX_n, cond_true, cond_false, cond_dec, jadd, jsub, jmul, jneg, li_0, li_1, li_2, li_3, li_4, li_5, li_6, li_7, li_8, li_9, li_10, li_14, li_15, li_16, li_19, li_20, li_24, li_30, li_31, li_32, li_39, li_40, li_48, li_57, li_59, li_60, li_63, li_65, li_80, li_81, li_90, li_97, li_99, li_100, li_122, li_126, li_127, li_150, li_160, li_200, li_225, li_255, li_400, li_799, li_800, li_999, li_2400, li_3239, li_3240, li_1048575, li_1431655765, li_858993459, li_252645135, eqb_j, ltb_j, leb_j, inb_j, ix_j, ix_n, nz_b, nz_0, nz_1, eqb_b, bnot, vI_ne, vI_eq, gIL, gLI, gIR, gRI, gLR, gRL, Int.reduceLT, Int.reduceLE, Int.reduceEq, Int.reduceAdd, Int.reduceSub, Int.reduceMul, Int.reduceNeg, Int.reduceToNat, Nat.reduceEqDiff, reduceIte, if_neg, if_pos, gI_ne]
      · have hb := has_s (gI w 85 t) i (by omega) w
        rw [h.2.2.1 t i ht10 (by omega)] at hb
        by_cases g2 : opS (vI m0) s t i
        · obtain ⟨o, o1, o2, o3⟩ := g2
          rw [pd_t ⟨o, o1, o2, o3⟩] at hb
          have n40 := o1.1
          have iA := evAt hR h.1 s o t i o1 o2 o3 ht10 (by omega)
          have hh := hereC hR hS h o o1.1 u (by omega)
          have hWi : W i = hrB (vI m0) s o u := by
            rw [hW, Bool.eq_iff_iff, pd_iff]
            constructor
            · rintro ⟨o', q1, q2⟩
              unfold wtP at q1
              rw [pd_iff] at q1
              have : o' = o := Classical.byContradiction fun e => (hA.2.2.2.2.2.2.2.1 o' o q1.1.1 o1.1 e q1.1.2.1 (by rw [q2, o3])).2.1 (by rw [q1.2.1, o2])
              rw [← this]
              exact q1.2.2.2
            · intro hq
              refine ⟨o, ?_, o3⟩
              unfold wtP
              rw [pd_iff, o3, Int.mul_comm]
              exact ⟨o1, o2, by omega, hq⟩
          rw [hWi] at ih2
          cases c : hrB (vI m0) s o u
          · rw [c] at hh ih2
            simp (disch := omega) only [fX1_gatherFacts_13, fX1_gatherFacts_38, qbI_s, qbL_s, qbV_s, qbR_s, qbR_n, qbN_s, qbN_n, qbIX_s, qbIX_n, qbVX_s, qbVX_n, cond_true, cond_false, cond_dec, jadd, jsub, jmul, jneg, li_0, li_1, li_2, li_3, li_4, li_5, li_6, li_7, li_8, li_9, li_10, li_14, li_15, li_16, li_19, li_20, li_24, li_30, li_31, li_32, li_39, li_40, li_48, li_57, li_59, li_60, li_63, li_65, li_80, li_81, li_90, li_97, li_99, li_100, li_122, li_126, li_127, li_150, li_160, li_200, li_225, li_255, li_400, li_799, li_800, li_999, li_2400, li_3239, li_3240, li_1048575, li_1431655765, li_858993459, li_252645135, eqb_j, ltb_j, leb_j, inb_j, ix_j, ix_n, nz_b, nz_0, nz_1, eqb_b, bnot, vI_ne, vI_eq, gIL, gLI, gIR, gRI, gLR, gRL, Int.reduceLT, Int.reduceLE, Int.reduceEq, Int.reduceAdd, Int.reduceSub, Int.reduceMul, Int.reduceNeg, Int.reduceToNat, Nat.reduceEqDiff, reduceIte, if_neg, if_pos, gI_ne, hb, iA, hh, show bI true = 1 from rfl, show bI false = 0 from rfl]
            exact ih2
          · rw [c] at hh ih2
            simp (disch := omega) only [fX1_gatherFacts_13, fX1_gatherFacts_38, qbI_s, qbL_s, qbV_s, qbR_s, qbR_n, qbN_s, qbN_n, qbIX_s, qbIX_n, qbVX_s, qbVX_n, cond_true, cond_false, cond_dec, jadd, jsub, jmul, jneg, li_0, li_1, li_2, li_3, li_4, li_5, li_6, li_7, li_8, li_9, li_10, li_14, li_15, li_16, li_19, li_20, li_24, li_30, li_31, li_32, li_39, li_40, li_48, li_57, li_59, li_60, li_63, li_65, li_80, li_81, li_90, li_97, li_99, li_100, li_122, li_126, li_127, li_150, li_160, li_200, li_225, li_255, li_400, li_799, li_800, li_999, li_2400, li_3239, li_3240, li_1048575, li_1431655765, li_858993459, li_252645135, eqb_j, ltb_j, leb_j, inb_j, ix_j, ix_n, nz_b, nz_0, nz_1, eqb_b, bnot, vI_ne, vI_eq, gIL, gLI, gIR, gRI, gLR, gRL, Int.reduceLT, Int.reduceLE, Int.reduceEq, Int.reduceAdd, Int.reduceSub, Int.reduceMul, Int.reduceNeg, Int.reduceToNat, Nat.reduceEqDiff, reduceIte, if_neg, if_pos, gI_ne, hb, iA, hh, show bI true = 1 from rfl]
            exact ih2
        · rw [pd_f g2] at hb
          have hWi : W i = false := by
            rw [hW]
            refine pd_f fun ⟨o, o1, o2⟩ => g2 ?_
            unfold wtP at o1
            rw [pd_iff] at o1
            exact ⟨o, o1.1, o1.2.1, o2⟩
          rw [hWi] at ih2
          simp (disch := omega) only [fX1_gatherFacts_13, fX1_gatherFacts_38, qbI_s, qbL_s, qbV_s, qbR_s, qbR_n, qbN_s, qbN_n, qbIX_s, qbIX_n, qbVX_s, qbVX_n, cond_true, cond_false, cond_dec, jadd, jsub, jmul, jneg, li_0, li_1, li_2, li_3, li_4, li_5, li_6, li_7, li_8, li_9, li_10, li_14, li_15, li_16, li_19, li_20, li_24, li_30, li_31, li_32, li_39, li_40, li_48, li_57, li_59, li_60, li_63, li_65, li_80, li_81, li_90, li_97, li_99, li_100, li_122, li_126, li_127, li_150, li_160, li_200, li_225, li_255, li_400, li_799, li_800, li_999, li_2400, li_3239, li_3240, li_1048575, li_1431655765, li_858993459, li_252645135, eqb_j, ltb_j, leb_j, inb_j, ix_j, ix_n, nz_b, nz_0, nz_1, eqb_b, bnot, vI_ne, vI_eq, gIL, gLI, gIR, gRI, gLR, gRL, Int.reduceLT, Int.reduceLE, Int.reduceEq, Int.reduceAdd, Int.reduceSub, Int.reduceMul, Int.reduceNeg, Int.reduceToNat, Nat.reduceEqDiff, reduceIte, if_neg, if_pos, gI_ne, hb, show bI false = 0 from rfl]
          exact ih2
  have l0 := loop 20 0 FU rfl (by rw [FU_d]; omega)
  rw [hW20] at l0
  have hc1 := fb_ct_le (wtP (vI m0) s t u) (vI m0 98 32).toNat
  have hpop : popc (gI w 85 t) = fb_ct (lfP (vI m0) s t) (vI m0 98 32).toNat := by
    rw [← opS_bij hR s t (lfP (vI m0) s t) (fun o ho => by unfold lfP at ho; rw [pd_iff] at ho; exact ho)]
    unfold popc
    have e1 : fb_ct (fun i => bt (gI w 85 t) i) 32 = fb_ct (fun i => bt (gI w 85 t) i) 20 := by
      rw [show 32 = 20 + 12 from rfl, fb_ct_split]
      have : fb_ct (fun k => bt (gI w 85 t) (20 + k)) 12 = 0 := fb_ct_zero.mpr fun k hk => by
        rw [h.2.2.1 t (20 + k) ht10 (by omega)]
        refine pd_f fun ⟨o, o1, o2, o3⟩ => ?_
        have := (hD.2.2.2.2.2.2 o o1.1).2.2.2
        omega
      omega
    rw [e1]
    refine fb_ct_cong fun i hi => ?_
    rw [h.2.2.1 t i ht10 (by omega), Bool.eq_iff_iff, pd_iff, pd_iff]
    constructor
    · rintro ⟨o, o1, o2, o3⟩
      exact ⟨o, pd_t ⟨o1, o2⟩, o3⟩
    · rintro ⟨o, o1, o2⟩
      unfold lfP at o1
      rw [pd_iff] at o1
      exact ⟨o, o1.1, o1.2, o2⟩
  have hc2 := fb_ct_le (lfP (vI m0) s t) (vI m0 98 32).toNat
  -- the facts put
  obtain ⟨F0, hF0⟩ : ∃ F0 : Int, F0 = u - vI m0 125 a * vI m0 99 0 := ⟨_, rfl⟩
  have hF0' : F0 = u - vI m0 99 0 * vI m0 125 a := by rw [hF0, Int.mul_comm]
  obtain ⟨w3, hw3⟩ : ∃ w3 : qM, w3 = sI (sI (sI w 84 0 (Zi F0)) 84 1 (Zi (fb_ct (wtP (vI m0) s t u) (vI m0 98 32).toNat))) 84 2 (Zi (fb_ct (lfP (vI m0) s t) (vI m0 98 32).toNat)) := ⟨_, rfl⟩
  have F3 : Fr (fun c _ => c = 84) w w3 := by rw [hw3]; exact Fr.wI (P := fun c _ => c = 84) (Fr.wI (P := fun c _ => c = 84) (Fr.wI (P := fun c _ => c = 84) (Fr.rf w) 84 _ _ rfl) 84 _ _ rfl) 84 _ _ rfl
  have C3 : CS m0 s K w3 := h.keep (F3.wide fun c k hc => Or.inl hc)
  obtain ⟨w4, hw4⟩ : ∃ w4 : qM, w4 = sI w3 84 3 (Zi (vI m0 126 a)) := ⟨_, rfl⟩
  have F4 : Fr (fun c _ => c = 84) w w4 := by rw [hw4]; exact F3.wI 84 _ _ rfl
  have C4 : CS m0 s K w4 := h.keep (F4.wide fun c k hc => Or.inl hc)
  obtain ⟨w5, hw5⟩ : ∃ w5 : qM, w5 = sI w4 84 4 (Zi (bI (hrB (vI m0) s a u))) := ⟨_, rfl⟩
  have F5 : Fr (fun c _ => c = 84) w w5 := by rw [hw5]; exact F4.wI 84 _ _ rfl
  have C5 : CS m0 s K w5 := h.keep (F5.wide fun c k hc => Or.inl hc)
  have mus3 := evMus (CS.all hR C3.1) a a1
  have her4 := hereC hR hS C4 a a1 u (by omega)
  have slo5 := evSlo (CS.all hR C5.1) a a1
  have slo0 := evSlo hA a a1
  have pop : ∀ x : qM, fJ6_bitCount_0f7a4 (gI w 85 t) x = some (Zi (fb_ct (lfP (vI m0) s t) (vI m0 98 32).toNat), x) := fun x => by rw [popc_s, hpop]
  have t89 : ∀ b : Bool, b = hrB (vI m0) s a u → fX1_gatherFacts_89 (Zi a) (Zi (bI b)) (Zi 4) w4 = some ((), sI w5 84 5 (Zi (vI m0 125 a))) := fun b hb => by
    rw [hb]
    have bb := bI_r (hrB (vI m0) s a u)
    simp (disch := omega) only [fX1_gatherFacts_89, qbI_s, qbL_s, qbV_s, qbR_s, qbR_n, qbN_s, qbN_n, qbIX_s, qbIX_n, qbVX_s, qbVX_n, cond_true, cond_false, cond_dec, jadd, jsub, jmul, jneg, li_0, li_1, li_2, li_3, li_4, li_5, li_6, li_7, li_8, li_9, li_10, li_14, li_15, li_16, li_19, li_20, li_24, li_30, li_31, li_32, li_39, li_40, li_48, li_57, li_59, li_60, li_63, li_65, li_80, li_81, li_90, li_97, li_99, li_100, li_122, li_126, li_127, li_150, li_160, li_200, li_225, li_255, li_400, li_799, li_800, li_999, li_2400, li_3239, li_3240, li_1048575, li_1431655765, li_858993459, li_252645135, eqb_j, ltb_j, leb_j, inb_j, ix_j, ix_n, nz_b, nz_0, nz_1, eqb_b, bnot, vI_ne, vI_eq, gIL, gLI, gIR, gRI, gLR, gRL, Int.reduceLT, Int.reduceLE, Int.reduceEq, Int.reduceAdd, Int.reduceSub, Int.reduceMul, Int.reduceNeg, Int.reduceToNat, Nat.reduceEqDiff, reduceIte, if_neg, if_pos, gI_ne, ← hw5, slo5]
  have t77 : ∀ b : Bool, vI m0 126 a = bI b → fX1_gatherFacts_77 (Zi a) (Zi u) (Zi (bI b)) (Zi 3) w3 = some ((), sI w5 84 5 (Zi (vI m0 125 a))) := fun b hb => by
    rw [hb] at hw4
    have bb := bI_r b
    cases c : hrB (vI m0) s a u
    · rw [c] at her4
      have := t89 false c.symm
      simp (disch := omega) only [fX1_gatherFacts_77, qbI_s, qbL_s, qbV_s, qbR_s, qbR_n, qbN_s, qbN_n, qbIX_s, qbIX_n, qbVX_s, qbVX_n, cond_true, cond_false, cond_dec, jadd, jsub, jmul, jneg, li_0, li_1, li_2, li_3, li_4, li_5, li_6, li_7, li_8, li_9, li_10, li_14, li_15, li_16, li_19, li_20, li_24, li_30, li_31, li_32, li_39, li_40, li_48, li_57, li_59, li_60, li_63, li_65, li_80, li_81, li_90, li_97, li_99, li_100, li_122, li_126, li_127, li_150, li_160, li_200, li_225, li_255, li_400, li_799, li_800, li_999, li_2400, li_3239, li_3240, li_1048575, li_1431655765, li_858993459, li_252645135, eqb_j, ltb_j, leb_j, inb_j, ix_j, ix_n, nz_b, nz_0, nz_1, eqb_b, bnot, vI_ne, vI_eq, gIL, gLI, gIR, gRI, gLR, gRL, Int.reduceLT, Int.reduceLE, Int.reduceEq, Int.reduceAdd, Int.reduceSub, Int.reduceMul, Int.reduceNeg, Int.reduceToNat, Nat.reduceEqDiff, reduceIte, if_neg, if_pos, gI_ne, ← hw4, her4, show bI false = 0 from rfl]
      exact this
    · rw [c] at her4
      have := t89 true c.symm
      simp (disch := omega) only [fX1_gatherFacts_77, qbI_s, qbL_s, qbV_s, qbR_s, qbR_n, qbN_s, qbN_n, qbIX_s, qbIX_n, qbVX_s, qbVX_n, cond_true, cond_false, cond_dec, jadd, jsub, jmul, jneg, li_0, li_1, li_2, li_3, li_4, li_5, li_6, li_7, li_8, li_9, li_10, li_14, li_15, li_16, li_19, li_20, li_24, li_30, li_31, li_32, li_39, li_40, li_48, li_57, li_59, li_60, li_63, li_65, li_80, li_81, li_90, li_97, li_99, li_100, li_122, li_126, li_127, li_150, li_160, li_200, li_225, li_255, li_400, li_799, li_800, li_999, li_2400, li_3239, li_3240, li_1048575, li_1431655765, li_858993459, li_252645135, eqb_j, ltb_j, leb_j, inb_j, ix_j, ix_n, nz_b, nz_0, nz_1, eqb_b, bnot, vI_ne, vI_eq, gIL, gLI, gIR, gRI, gLR, gRL, Int.reduceLT, Int.reduceLE, Int.reduceEq, Int.reduceAdd, Int.reduceSub, Int.reduceMul, Int.reduceNeg, Int.reduceToNat, Nat.reduceEqDiff, reduceIte, if_neg, if_pos, gI_ne, ← hw4, her4, show bI true = 1 from rfl]
      exact this
  have fr : -600 ≤ F0 ∧ F0 ≤ 800 := by omega
  have t40 : fX1_gatherFacts_40 (Zi a) (Zi u) (Zi t) (Zi (vI m0 99 0)) (Zi (fb_ct (wtP (vI m0) s t u) (vI m0 98 32).toNat)) w = some ((), sI w5 84 5 (Zi (vI m0 125 a))) := by
    rcases k3 with g | g
    · rw [g] at mus3
      have := t77 false g
      simp (disch := omega) only [fX1_gatherFacts_40, qbI_s, qbL_s, qbV_s, qbR_s, qbR_n, qbN_s, qbN_n, qbIX_s, qbIX_n, qbVX_s, qbVX_n, cond_true, cond_false, cond_dec, jadd, jsub, jmul, jneg, li_0, li_1, li_2, li_3, li_4, li_5, li_6, li_7, li_8, li_9, li_10, li_14, li_15, li_16, li_19, li_20, li_24, li_30, li_31, li_32, li_39, li_40, li_48, li_57, li_59, li_60, li_63, li_65, li_80, li_81, li_90, li_97, li_99, li_100, li_122, li_126, li_127, li_150, li_160, li_200, li_225, li_255, li_400, li_799, li_800, li_999, li_2400, li_3239, li_3240, li_1048575, li_1431655765, li_858993459, li_252645135, eqb_j, ltb_j, leb_j, inb_j, ix_j, ix_n, nz_b, nz_0, nz_1, eqb_b, bnot, vI_ne, vI_eq, gIL, gLI, gIR, gRI, gLR, gRL, Int.reduceLT, Int.reduceLE, Int.reduceEq, Int.reduceAdd, Int.reduceSub, Int.reduceMul, Int.reduceNeg, Int.reduceToNat, Nat.reduceEqDiff, reduceIte, if_neg, if_pos, gI_ne, slo0, ← hF0, pop, ← hw3, mus3]
      exact this
    · rw [g] at mus3
      have := t77 true g
      simp (disch := omega) only [fX1_gatherFacts_40, qbI_s, qbL_s, qbV_s, qbR_s, qbR_n, qbN_s, qbN_n, qbIX_s, qbIX_n, qbVX_s, qbVX_n, cond_true, cond_false, cond_dec, jadd, jsub, jmul, jneg, li_0, li_1, li_2, li_3, li_4, li_5, li_6, li_7, li_8, li_9, li_10, li_14, li_15, li_16, li_19, li_20, li_24, li_30, li_31, li_32, li_39, li_40, li_48, li_57, li_59, li_60, li_63, li_65, li_80, li_81, li_90, li_97, li_99, li_100, li_122, li_126, li_127, li_150, li_160, li_200, li_225, li_255, li_400, li_799, li_800, li_999, li_2400, li_3239, li_3240, li_1048575, li_1431655765, li_858993459, li_252645135, eqb_j, ltb_j, leb_j, inb_j, ix_j, ix_n, nz_b, nz_0, nz_1, eqb_b, bnot, vI_ne, vI_eq, gIL, gLI, gIR, gRI, gLR, gRL, Int.reduceLT, Int.reduceLE, Int.reduceEq, Int.reduceAdd, Int.reduceSub, Int.reduceMul, Int.reduceNeg, Int.reduceToNat, Nat.reduceEqDiff, reduceIte, if_neg, if_pos, gI_ne, slo0, ← hF0, pop, ← hw3, mus3]
      exact this
  refine ⟨(), sI w5 84 5 (Zi (vI m0 125 a)), ?_, F5.wI 84 _ _ rfl, fun k hk => ?_⟩
  · rw [fX1_gatherFacts_d]
    simp (disch := omega) only [fX1_gatherFacts_0, qbI_s, qbL_s, qbV_s, qbR_s, qbR_n, qbN_s, qbN_n, qbIX_s, qbIX_n, qbVX_s, qbVX_n, cond_true, cond_false, cond_dec, jadd, jsub, jmul, jneg, li_0, li_1, li_2, li_3, li_4, li_5, li_6, li_7, li_8, li_9, li_10, li_14, li_15, li_16, li_19, li_20, li_24, li_30, li_31, li_32, li_39, li_40, li_48, li_57, li_59, li_60, li_63, li_65, li_80, li_81, li_90, li_97, li_99, li_100, li_122, li_126, li_127, li_150, li_160, li_200, li_225, li_255, li_400, li_799, li_800, li_999, li_2400, li_3239, li_3240, li_1048575, li_1431655765, li_858993459, li_252645135, eqb_j, ltb_j, leb_j, inb_j, ix_j, ix_n, nz_b, nz_0, nz_1, eqb_b, bnot, vI_ne, vI_eq, gIL, gLI, gIR, gRI, gLR, gRL, Int.reduceLT, Int.reduceLE, Int.reduceEq, Int.reduceAdd, Int.reduceSub, Int.reduceMul, Int.reduceNeg, Int.reduceToNat, Nat.reduceEqDiff, reduceIte, if_neg, if_pos, gI_ne, tA, mA]
    exact l0.trans t40
  · have bb := bI_r (hrB (vI m0) s a u)
    have hfs : factV (vI m0) s a u k = if k = 0 then F0 else if k = 1 then fb_ct (wtP (vI m0) s t u) (vI m0 98 32).toNat else if k = 2 then fb_ct (lfP (vI m0) s t) (vI m0 98 32).toNat else if k = 3 then vI m0 126 a else if k = 4 then bI (hrB (vI m0) s a u) else vI m0 125 a := by
      unfold factV
      rw [ht, Int.toNat_natCast, hF0']
    rw [hfs, vI_eq (by omega), hw5, vI_eq (by omega), hw4, vI_eq (by omega), hw3, vI_eq (by omega), vI_eq (by omega), vI_eq (by omega)]
    obtain rfl | rfl | rfl | rfl | rfl | rfl : k = 0 ∨ k = 1 ∨ k = 2 ∨ k = 3 ∨ k = 4 ∨ k = 5 := by omega
    all_goals rfl
