/-! what families wait; what all that is laid is worth -/
noncomputable def gapP (p : Nat → Bool) (j : Nat) : Bool := !p j && (pd (∃ k, k < j ∧ p k = true) && pd (∃ k, j < k ∧ p k = true))
noncomputable def lfB (d : Nat → Nat → Int) (f s : Nat) : Bool := pd (laidF d f s)
noncomputable def gapD (d : Nat → Nat → Int) (f : Nat) : Nat := fb_ct (gapP (lfB d f)) 32
theorem bt_lf {m : qM} {d : Nat → Nat → Int} (hC : CAll m d) (f : Nat) (hf : f < 15) : bt (gI m 65 f) = lfB d f := by
  obtain ⟨hRu, hPt, hPf, hAp, hWk, hAs, hPa, hCl, hDi, hBi, hCn⟩ := hC
  funext k
  by_cases h : k < 32
  · exact hBi.1 f k hf h
  · rw [b_big (by omega)]
    exact (pd_f fun ⟨o, h1, h2, h3⟩ => by have := (hAs.2.2.2 o h1).2.2.2; omega).symm
theorem gap_D {m : qM} {d : Nat → Nat → Int} (hC : CAll m d) (f : Nat) (hf : f < 15) : gapN (gI m 65 f) = gapD d f := by
  have e := bt_lf hC f hf
  unfold gapN gapD
  refine fb_ct_cong fun k _ => ?_
  unfold gapB gapP
  rw [e]
def wC (d : Nat → Nat → Int) (f a : Nat) : Bool := decide (d 123 a = f) && isLd d a
def wF (d : Nat → Nat → Int) (f : Nat) : Nat → Int
  | 0 => 20
  | i + 1 => if wC d f i then min (wF d f i) (d 125 i) else wF d f i
def wL (d : Nat → Nat → Int) (f : Nat) : Nat → Int
  | 0 => -1
  | i + 1 => if wC d f i then max (wL d f i) (d 125 i) else wL d f i
theorem wC_iff {d : Nat → Nat → Int} {f a : Nat} : wC d f a = true ↔ d 123 a = f ∧ d 125 a ≠ -1 := by
  unfold wC isLd
  rw [Bool.and_eq_true, decide_eq_true_eq, decide_eq_true_eq]
theorem wFL (d : Nat → Nat → Int) (hs : ∀ a : Nat, (a : Int) < d 98 32 → -1 ≤ d 125 a ∧ d 125 a ≤ 19) (f : Nat) : ∀ i : Nat, (i : Int) ≤ d 98 32 → (∀ a, a < i → wC d f a = true → wF d f i ≤ d 125 a ∧ d 125 a ≤ wL d f i) ∧ (-1 ≤ wF d f i ∧ wF d f i ≤ 20 ∧ -1 ≤ wL d f i ∧ wL d f i ≤ 19) ∧ (fb_ct (wC d f) i = 0 ∨ (∃ a, a < i ∧ wC d f a = true ∧ d 125 a = wF d f i) ∧ (∃ a, a < i ∧ wC d f a = true ∧ d 125 a = wL d f i) ∧ 0 < fb_ct (wC d f) i) := by
  intro i
  induction i with
  | zero => exact fun _ => ⟨fun a h => absurd h (Nat.not_lt_zero a), ⟨by unfold wF; omega, by unfold wF; omega, by unfold wL; omega, by unfold wL; omega⟩, Or.inl rfl⟩
  | succ i ih =>
    intro hi
    obtain ⟨h1, h2, h3⟩ := ih (by omega)
    have hs' := hs i (by omega)
    rw [fb_ct_succ]
    cases hc : wC d f i
    · have eF : wF d f (i + 1) = wF d f i := by rw [wF, hc]; rfl
      have eL : wL d f (i + 1) = wL d f i := by rw [wL, hc]; rfl
      rw [eF, eL]
      refine ⟨fun a ha hw => ?_, h2, ?_⟩
      · have : a ≠ i := fun z => by rw [z, hc] at hw; cases hw
        exact h1 a (by omega) hw
      · rcases h3 with h3 | ⟨⟨a, p1, p2, p3⟩, ⟨b, r1, r2, r3⟩, h4⟩
        · exact Or.inl (by rw [h3]; rfl)
        · exact Or.inr ⟨⟨a, by omega, p2, p3⟩, ⟨b, by omega, r2, r3⟩, by omega⟩
    · have eF : wF d f (i + 1) = min (wF d f i) (d 125 i) := by rw [wF, hc]; rfl
      have eL : wL d f (i + 1) = max (wL d f i) (d 125 i) := by rw [wL, hc]; rfl
      have hl := (wC_iff.mp hc).2
      rw [eF, eL]
      refine ⟨fun a ha hw => ?_, by omega, Or.inr ⟨?_, ?_, by rw [if_pos rfl]; omega⟩⟩
      · by_cases e : a = i
        · rw [e]; omega
        · have := h1 a (by omega) hw
          omega
      · rcases h3 with h3 | ⟨⟨a, p1, p2, p3⟩, -, -⟩
        · refine ⟨i, by omega, hc, ?_⟩
          have hz : wF d f i = 20 := by
            have : ∀ j, j ≤ i → wF d f j = 20 := by
              intro j
              induction j with
              | zero => intro _; rfl
              | succ j ihj =>
                intro hj
                have := fb_ct_zero.mp h3 j (by omega)
                rw [wF, this]
                exact ihj (by omega)
            exact this i (Nat.le_refl i)
          omega
        · by_cases e : wF d f i ≤ d 125 i
          · exact ⟨a, by omega, p2, by omega⟩
          · exact ⟨i, by omega, hc, by omega⟩
      · rcases h3 with h3 | ⟨-, ⟨b, r1, r2, r3⟩, -⟩
        · refine ⟨i, by omega, hc, ?_⟩
          have hz : wL d f i = -1 := by
            have : ∀ j, j ≤ i → wL d f j = -1 := by
              intro j
              induction j with
              | zero => intro _; rfl
              | succ j ihj =>
                intro hj
                have := fb_ct_zero.mp h3 j (by omega)
                rw [wL, this]
                exact ihj (by omega)
            exact this i (Nat.le_refl i)
          omega
        · by_cases e : d 125 i ≤ wL d f i
          · exact ⟨b, by omega, r2, by omega⟩
          · exact ⟨i, by omega, hc, by omega⟩
/-- as many slots as asks: no two of a family in one -/
theorem wN_lf (d : Nat → Nat → Int) (m : qM) (hCl : CClash m d) (hs : ∀ a : Nat, (a : Int) < d 98 32 → -1 ≤ d 125 a ∧ d 125 a ≤ 19) (f : Nat) : ∀ i : Nat, (i : Int) ≤ d 98 32 → fb_ct (fun s => pd (∃ a : Nat, a < i ∧ wC d f a = true ∧ d 125 a = (s : Int))) 32 = fb_ct (wC d f) i := by
  intro i
  induction i with
  | zero =>
    intro _
    rw [show fb_ct (wC d f) 0 = 0 from rfl]
    exact fb_ct_zero.mpr fun k _ => pd_f fun ⟨a, h, _⟩ => Nat.not_lt_zero a h
  | succ i ih =>
    intro hi
    have ih := ih (by omega)
    have hs' := hs i (by omega)
    rw [fb_ct_succ (wC d f) i]
    cases hc : wC d f i
    · have e : fb_ct (fun s => pd (∃ a : Nat, a < i + 1 ∧ wC d f a = true ∧ d 125 a = (s : Int))) 32 = fb_ct (fun s => pd (∃ a : Nat, a < i ∧ wC d f a = true ∧ d 125 a = (s : Int))) 32 := by
        refine fb_ct_cong fun k _ => ?_
        rw [Bool.eq_iff_iff, pd_iff, pd_iff]
        constructor
        · rintro ⟨a, h1, h2, h3⟩
          exact ⟨a, by have : a ≠ i := fun z => (by rw [z, hc] at h2; cases h2)
                       omega, h2, h3⟩
        · rintro ⟨a, h1, h2, h3⟩
          exact ⟨a, by omega, h2, h3⟩
      rw [e, ih]
      rfl
    · have hl := wC_iff.mp hc
      obtain ⟨q, hq⟩ : ∃ q : Nat, d 125 i = q := ⟨(d 125 i).toNat, by omega⟩
      have e : fb_ct (fun s => pd (∃ a : Nat, a < i + 1 ∧ wC d f a = true ∧ d 125 a = (s : Int))) 32 = fb_ct (fun s => if s = q then true else pd (∃ a : Nat, a < i ∧ wC d f a = true ∧ d 125 a = (s : Int))) 32 := by
        refine fb_ct_cong fun k _ => ?_
        by_cases hk : k = q
        · rw [if_pos hk]
          exact pd_t ⟨i, by omega, hc, by omega⟩
        · rw [if_neg hk, Bool.eq_iff_iff, pd_iff, pd_iff]
          constructor
          · rintro ⟨a, h1, h2, h3⟩
            exact ⟨a, by have : a ≠ i := fun z => hk (by rw [z] at h3; omega)
                         omega, h2, h3⟩
          · rintro ⟨a, h1, h2, h3⟩
            exact ⟨a, by omega, h2, h3⟩
      have h9 := fb_ct_upd (fun s => pd (∃ a : Nat, a < i ∧ wC d f a = true ∧ d 125 a = (s : Int))) true (show q < 32 by omega)
      have z : pd (∃ a : Nat, a < i ∧ wC d f a = true ∧ d 125 a = (q : Int)) = false := pd_f fun ⟨a, h1, h2, h3⟩ => by
        have h4 := wC_iff.mp h2
        exact (hCl a i (by omega) (by omega) (by omega) h4.2 (by omega)).1 (by omega)
      rw [e, if_pos rfl, ← ih]
      simp only [z, Bool.false_eq_true, if_false, if_true, Nat.add_zero] at h9
      exact h9
noncomputable def wtV (d : Nat → Nat → Int) (f : Nat) : Int := if fb_ct (wC d f) (d 98 32).toNat = 0 then -1 else (gapD d f : Int)
theorem lf_wC (d : Nat → Nat → Int) (h0 : 0 ≤ d 98 32) (f s : Nat) : lfB d f s = pd (∃ a : Nat, a < (d 98 32).toNat ∧ wC d f a = true ∧ d 125 a = (s : Int)) := by
  unfold lfB laidF
  rw [Bool.eq_iff_iff, pd_iff, pd_iff]
  constructor
  · rintro ⟨a, h1, h2, h3⟩
    exact ⟨a, by omega, wC_iff.mpr ⟨h2, by omega⟩, h3⟩
  · rintro ⟨a, h1, h2, h3⟩
    exact ⟨a, by omega, (wC_iff.mp h2).1, h3⟩
theorem wait_eq (d : Nat → Nat → Int) (m : qM) (hCl : CClash m d) (h0 : 0 ≤ d 98 32) (hs : ∀ a : Nat, (a : Int) < d 98 32 → -1 ≤ d 125 a ∧ d 125 a ≤ 19) (f : Nat) (hn : fb_ct (wC d f) (d 98 32).toNat ≠ 0) : wL d f (d 98 32).toNat - wF d f (d 98 32).toNat + 1 - (fb_ct (wC d f) (d 98 32).toNat : Int) = gapD d f := by
  obtain ⟨h1, h2, h3⟩ := wFL d hs f (d 98 32).toNat (by omega)
  rcases h3 with h3 | ⟨⟨a, p1, p2, p3⟩, ⟨b, r1, r2, r3⟩, -⟩
  · exact absurd h3 hn
  · have ha := hs a (by omega)
    have hb := hs b (by omega)
    have la := wC_iff.mp p2
    have lb := wC_iff.mp r2
    have hab := h1 a p1 p2
    obtain ⟨F, hF⟩ : ∃ F : Nat, wF d f (d 98 32).toNat = F := ⟨(wF d f (d 98 32).toNat).toNat, by omega⟩
    obtain ⟨L, hL⟩ : ∃ L : Nat, wL d f (d 98 32).toNat = L := ⟨(wL d f (d 98 32).toNat).toNat, by omega⟩
    have hFL : F ≤ L := by omega
    have n1 := wN_lf d m hCl hs f (d 98 32).toNat (by omega)
    have n2 : fb_ct (lfB d f) 32 = fb_ct (wC d f) (d 98 32).toNat := by
      rw [← n1]
      exact fb_ct_cong fun k _ => lf_wC d h0 f k
    have out : ∀ k : Nat, lfB d f k = true → F ≤ k ∧ k ≤ L := fun k hk => by
      rw [lf_wC d h0, pd_iff] at hk
      obtain ⟨c, c1, c2, c3⟩ := hk
      have := h1 c c1 c2
      omega
    have atF : lfB d f F = true := by rw [lf_wC d h0]; exact pd_t ⟨a, p1, p2, by omega⟩
    have atL : lfB d f L = true := by rw [lf_wC d h0]; exact pd_t ⟨b, r1, r2, by omega⟩
    have dis : fb_ct (fun k => lfB d f k || gapP (lfB d f) k) 32 = fb_ct (lfB d f) 32 + gapD d f := fb_ct_or fun k _ ⟨g1, g2⟩ => by
      unfold gapP at g2
      rw [g1] at g2
      simp at g2
    have all : fb_ct (fun k => lfB d f k || gapP (lfB d f) k) 32 = fb_ct (fun k => decide (F ≤ k ∧ k ≤ L)) 32 := fb_ct_cong fun k _ => by
      rw [Bool.eq_iff_iff, Bool.or_eq_true, decide_eq_true_eq]
      constructor
      · rintro (h | h)
        · exact out k h
        · unfold gapP at h
          rw [Bool.and_eq_true, Bool.and_eq_true, pd_iff, pd_iff] at h
          obtain ⟨-, ⟨x, x1, x2⟩, ⟨y, y1, y2⟩⟩ := h
          have := out x x2
          have := out y y2
          omega
      · rintro ⟨g1, g2⟩
        by_cases g : lfB d f k = true
        · exact Or.inl g
        · right
          have g' : lfB d f k = false := by simpa using g
          have c1 : k ≠ F := fun z => g (by rw [z]; exact atF)
          have c2 : k ≠ L := fun z => g (by rw [z]; exact atL)
          unfold gapP
          rw [g', pd_t ⟨F, by omega, atF⟩, pd_t ⟨L, by omega, atL⟩]
          rfl
    have cnt : fb_ct (fun k => decide (F ≤ k ∧ k ≤ L)) 32 + F = L + 1 := by
      have q1 : fb_ct (fun k => decide (k < F) || decide (F ≤ k ∧ k ≤ L)) 32 = fb_ct (fun k => decide (k < F)) 32 + fb_ct (fun k => decide (F ≤ k ∧ k ≤ L)) 32 := fb_ct_or fun k _ ⟨g1, g2⟩ => by
        rw [decide_eq_true_eq] at g1 g2
        omega
      have q2 : fb_ct (fun k => decide (k < F) || decide (F ≤ k ∧ k ≤ L)) 32 = fb_ct (fun k => decide (k < L + 1)) 32 := fb_ct_cong fun k _ => by
        rw [Bool.eq_iff_iff, Bool.or_eq_true, decide_eq_true_eq, decide_eq_true_eq, decide_eq_true_eq]
        omega
      rw [fb_ct_below 32 F (by omega)] at q1
      rw [fb_ct_below 32 (L + 1) (by omega)] at q2
      omega
    rw [hF, hL]
    omega
theorem gap_none (d : Nat → Nat → Int) (h0 : 0 ≤ d 98 32) (f : Nat) (hn : fb_ct (wC d f) (d 98 32).toNat = 0) : gapD d f = 0 ∧ ∀ s, lfB d f s = false := by
  have h1 : ∀ s, lfB d f s = false := fun s => by
    rw [lf_wC d h0]
    exact pd_f fun ⟨a, g1, g2, g3⟩ => by
      have := fb_ct_zero.mp hn a g1
      rw [this] at g2
      cases g2
  refine ⟨?_, h1⟩
  unfold gapD
  refine fb_ct_zero.mpr fun k _ => ?_
  unfold gapP
  rw [pd_f (fun ⟨x, x1, x2⟩ => by rw [h1 x] at x2; cases x2)]
  simp
theorem gapD_le (d : Nat → Nat → Int) (f : Nat) : gapD d f ≤ 32 := fb_ct_le _ _
theorem waitsOf_s (m : qM) (hM : MOk m) (hCl : CClash m (vI m)) (f : Nat) (hf : f < 15) : fX13_waitsOf (Zi f) m = some (Zi (wtV (vI m) f), m) := by
  have n1 := hM.2.2.2.2.1
  have n2 := hM.2.2.2.2.2.1
  have hs : ∀ a : Nat, (a : Int) < vI m 98 32 → -1 ≤ vI m 125 a ∧ vI m 125 a ≤ 19 := fun a ha => (hM.2.2.2.2.2.2 a ha).2.2.2
  have key : ∀ (r i g : Nat), i + r = (vI m 98 32).toNat → r < g → fX13_waitsOf_8 fX13_waitsOf_53 g (Zi f) (Zi (wF (vI m) f i)) (Zi (wL (vI m) f i)) (Zi (fb_ct (wC (vI m) f) i)) (Zi i) m = some (Zi (wtV (vI m) f), m) := by
    intro r
    induction r with
    | zero =>
      intro i g hi hg
      obtain ⟨g, rfl⟩ : ∃ g', g = g' + 1 := ⟨g - 1, by omega⟩
      have hi' : i = (vI m 98 32).toNat := by omega
      subst hi'
      have hb := (wFL (vI m) hs f (vI m 98 32).toNat (by omega)).2.1
      have hc := fb_ct_le (wC (vI m) f) (vI m 98 32).toNat
      simp (disch := omega) only [fX13_waitsOf_8, fX13_waitsOf_53, qbI_s, qbL_s, qbV_s, qbR_s, qbR_n, qbN_s, qbN_n, qbIX_s, qbIX_n, qbVX_s, qbVX_n, cond_true, cond_false, cond_dec, jadd, jsub, jmul, jneg, li_0, li_1, li_2, li_3, li_4, li_5, li_6, li_7, li_8, li_9, li_10, li_14, li_15, li_16, li_19, li_20, li_24, li_30, li_31, li_32, li_39, li_40, li_48, li_57, li_59, li_60, li_63, li_65, li_80, li_81, li_90, li_97, li_99, li_100, li_122, li_126, li_127, li_150, li_160, li_200, li_225, li_255, li_400, li_799, li_800, li_999, li_2400, li_3239, li_3240, li_1048575, li_1431655765, li_858993459, li_252645135, eqb_j, ltb_j, leb_j, inb_j, ix_j, ix_n, nz_b, nz_0, nz_1, eqb_b, bnot, vI_ne, vI_eq, gIL, gLI, gIR, gRI, gLR, gRL, Int.reduceLT, Int.reduceLE, Int.reduceEq, Int.reduceAdd, Int.reduceSub, Int.reduceMul, Int.reduceNeg, Int.reduceToNat, Nat.reduceEqDiff, reduceIte, if_neg, if_pos, gI_ne, gIv 98]
      unfold wtV
      by_cases h : fb_ct (wC (vI m) f) (vI m 98 32).toNat = 0
      · rw [if_pos (by omega), if_pos h]
      · rw [if_neg (by omega), if_neg h, ← wait_eq (vI m) m hCl n1 hs f h]
    | succ r ih =>
      intro i g hi hg
      obtain ⟨g, rfl⟩ : ∃ g', g = g' + 1 := ⟨g - 1, by omega⟩
      have ih2 := ih (i + 1) g (by omega) (by omega)
      have hb := (wFL (vI m) hs f i (by omega)).2.1
      have hs' := hs i (by omega)
      have hfm := (hM.2.2.2.2.2.2 i (by omega)).1
      rw [wF, wL, fb_ct_succ] at ih2
      by_cases h1 : vI m 123 i = f
      · by_cases h2 : vI m 125 i = -1
        · rw [show wC (vI m) f i = false by rw [← Bool.not_eq_true, wC_iff]; exact fun z => z.2 h2] at ih2
          simp (disch := omega) only [fX13_waitsOf_8, fX13_waitsOf_40, qbI_s, qbL_s, qbV_s, qbR_s, qbR_n, qbN_s, qbN_n, qbIX_s, qbIX_n, qbVX_s, qbVX_n, cond_true, cond_false, cond_dec, jadd, jsub, jmul, jneg, li_0, li_1, li_2, li_3, li_4, li_5, li_6, li_7, li_8, li_9, li_10, li_14, li_15, li_16, li_19, li_20, li_24, li_30, li_31, li_32, li_39, li_40, li_48, li_57, li_59, li_60, li_63, li_65, li_80, li_81, li_90, li_97, li_99, li_100, li_122, li_126, li_127, li_150, li_160, li_200, li_225, li_255, li_400, li_799, li_800, li_999, li_2400, li_3239, li_3240, li_1048575, li_1431655765, li_858993459, li_252645135, eqb_j, ltb_j, leb_j, inb_j, ix_j, ix_n, nz_b, nz_0, nz_1, eqb_b, bnot, vI_ne, vI_eq, gIL, gLI, gIR, gRI, gLR, gRL, Int.reduceLT, Int.reduceLE, Int.reduceEq, Int.reduceAdd, Int.reduceSub, Int.reduceMul, Int.reduceNeg, Int.reduceToNat, Nat.reduceEqDiff, reduceIte, if_neg, if_pos, gI_ne, gIv 98, gIv 123, gIv 125]
          exact ih2
        · rw [wC_iff.mpr ⟨h1, h2⟩] at ih2
          simp (disch := omega) only [fX13_waitsOf_8, fX13_waitsOf_40, qbI_s, qbL_s, qbV_s, qbR_s, qbR_n, qbN_s, qbN_n, qbIX_s, qbIX_n, qbVX_s, qbVX_n, cond_true, cond_false, cond_dec, jadd, jsub, jmul, jneg, li_0, li_1, li_2, li_3, li_4, li_5, li_6, li_7, li_8, li_9, li_10, li_14, li_15, li_16, li_19, li_20, li_24, li_30, li_31, li_32, li_39, li_40, li_48, li_57, li_59, li_60, li_63, li_65, li_80, li_81, li_90, li_97, li_99, li_100, li_122, li_126, li_127, li_150, li_160, li_200, li_225, li_255, li_400, li_799, li_800, li_999, li_2400, li_3239, li_3240, li_1048575, li_1431655765, li_858993459, li_252645135, eqb_j, ltb_j, leb_j, inb_j, ix_j, ix_n, nz_b, nz_0, nz_1, eqb_b, bnot, vI_ne, vI_eq, gIL, gLI, gIR, gRI, gLR, gRL, Int.reduceLT, Int.reduceLE, Int.reduceEq, Int.reduceAdd, Int.reduceSub, Int.reduceMul, Int.reduceNeg, Int.reduceToNat, Nat.reduceEqDiff, reduceIte, if_neg, if_pos, gI_ne, gIv 98, gIv 123, gIv 125, min_s, max_s]
          exact ih2
      · rw [show wC (vI m) f i = false by rw [← Bool.not_eq_true, wC_iff]; exact fun z => h1 z.1] at ih2
        simp (disch := omega) only [fX13_waitsOf_8, fX13_waitsOf_40, qbI_s, qbL_s, qbV_s, qbR_s, qbR_n, qbN_s, qbN_n, qbIX_s, qbIX_n, qbVX_s, qbVX_n, cond_true, cond_false, cond_dec, jadd, jsub, jmul, jneg, li_0, li_1, li_2, li_3, li_4, li_5, li_6, li_7, li_8, li_9, li_10, li_14, li_15, li_16, li_19, li_20, li_24, li_30, li_31, li_32, li_39, li_40, li_48, li_57, li_59, li_60, li_63, li_65, li_80, li_81, li_90, li_97, li_99, li_100, li_122, li_126, li_127, li_150, li_160, li_200, li_225, li_255, li_400, li_799, li_800, li_999, li_2400, li_3239, li_3240, li_1048575, li_1431655765, li_858993459, li_252645135, eqb_j, ltb_j, leb_j, inb_j, ix_j, ix_n, nz_b, nz_0, nz_1, eqb_b, bnot, vI_ne, vI_eq, gIL, gLI, gIR, gRI, gLR, gRL, Int.reduceLT, Int.reduceLE, Int.reduceEq, Int.reduceAdd, Int.reduceSub, Int.reduceMul, Int.reduceNeg, Int.reduceToNat, Nat.reduceEqDiff, reduceIte, if_neg, if_pos, gI_ne, gIv 98, gIv 123]
        exact ih2
  rw [fX13_waitsOf_d]
  simp only [fX13_waitsOf_0]
  exact key (vI m 98 32).toNat 0 FU (by omega) (by rw [FU_d]; omega)
noncomputable def vM (d : Nat → Nat → Int) : Nat := fb_ct (fun k => isLd d k && decide (d 126 k = 1)) (d 98 32).toNat
noncomputable def vA (d : Nat → Nat → Int) : Nat := fb_ct (fun k => isLd d k) (d 98 32).toNat
noncomputable def vW (d : Nat → Nat → Int) : Nat := fb_sm (fun f => gapD d f) 15
noncomputable def vP (d : Nat → Nat → Int) : Int := fb_si (fun k => ptV d k) (d 98 32).toNat
theorem val_r (d : Nat → Nat → Int) (hD : DOk d) : vM d ≤ 40 ∧ vA d ≤ 40 ∧ vM d ≤ vA d ∧ vW d ≤ 480 ∧ 0 ≤ vP d ∧ vP d ≤ 400 := by
  have h1 := ct_r d hD
  have h2 := ptV_r d hD
  have h3 : fb_sm (fun f => gapD d f) 15 ≤ 15 * 32 := fb_sm_bound (f := fun f => gapD d f) (c := 32) (n := 15) (fun k _ => gapD_le d k)
  have h4 : vM d ≤ vA d := fb_ct_sub fun k _ h => by
    rw [Bool.and_eq_true] at h
    exact h.1
  exact ⟨h1.2, h1.1, h4, h3, h2⟩
theorem cnt_C {m : qM} {d : Nat → Nat → Int} (hC : CAll m d) : vI m 58 13 = vA d ∧ vI m 58 14 = vM d ∧ vI m 58 15 = vW d ∧ vI m 58 16 = vP d := by
  have hC' := hC
  obtain ⟨hRu, hPt, hPf, hAp, hWk, hAs, hPa, hCl, hDi, hBi, hCn⟩ := hC'
  refine ⟨hCn.2.1, hCn.2.2.1, ?_, hCn.2.2.2.2⟩
  rw [hCn.2.2.2.1]
  unfold vW
  congr 1
  exact fb_sm_cong fun k hk => gap_D hC k hk
theorem valueOf0 (m : qM) (hM : MOk m) : fX13_valueOf (Zi 0) m = some (Zi (vM (vI m)), m) := by
  have n1 := hM.2.2.2.2.1
  have n2 := hM.2.2.2.2.2.1
  have key : ∀ (r i g : Nat), i + r = (vI m 98 32).toNat → r < g → fX13_valueOf_22 fX13_valueOf_87 g (Zi 0) (Zi (fb_ct (fun k => isLd (vI m) k && decide (vI m 126 k = 1)) i)) (Zi i) m = some (Zi (vM (vI m)), m) := by
    intro r
    induction r with
    | zero =>
      intro i g hi hg
      obtain ⟨g, rfl⟩ : ∃ g', g = g' + 1 := ⟨g - 1, by omega⟩
      simp (disch := omega) only [fX13_valueOf_22, fX13_valueOf_87, qbI_s, qbL_s, qbV_s, qbR_s, qbR_n, qbN_s, qbN_n, qbIX_s, qbIX_n, qbVX_s, qbVX_n, cond_true, cond_false, cond_dec, jadd, jsub, jmul, jneg, li_0, li_1, li_2, li_3, li_4, li_5, li_6, li_7, li_8, li_9, li_10, li_14, li_15, li_16, li_19, li_20, li_24, li_30, li_31, li_32, li_39, li_40, li_48, li_57, li_59, li_60, li_63, li_65, li_80, li_81, li_90, li_97, li_99, li_100, li_122, li_126, li_127, li_150, li_160, li_200, li_225, li_255, li_400, li_799, li_800, li_999, li_2400, li_3239, li_3240, li_1048575, li_1431655765, li_858993459, li_252645135, eqb_j, ltb_j, leb_j, inb_j, ix_j, ix_n, nz_b, nz_0, nz_1, eqb_b, bnot, vI_ne, vI_eq, gIL, gLI, gIR, gRI, gLR, gRL, Int.reduceLT, Int.reduceLE, Int.reduceEq, Int.reduceAdd, Int.reduceSub, Int.reduceMul, Int.reduceNeg, Int.reduceToNat, Nat.reduceEqDiff, reduceIte, if_neg, if_pos, gI_ne, gIv 98]
      rw [show i = (vI m 98 32).toNat by omega]
      rfl
    | succ r ih =>
      intro i g hi hg
      obtain ⟨g, rfl⟩ : ∃ g', g = g' + 1 := ⟨g - 1, by omega⟩
      have ih2 := ih (i + 1) g (by omega) (by omega)
      have hk := hM.2.2.2.2.2.2 i (by omega)
      rw [fb_ct_succ] at ih2
      by_cases h2 : vI m 125 i = -1
      · rw [show isLd (vI m) i = false from decide_eq_false (fun z => z h2)] at ih2
        simp (disch := omega) only [fX13_valueOf_22, fX13_valueOf_83, fX13_valueOf_85, qbI_s, qbL_s, qbV_s, qbR_s, qbR_n, qbN_s, qbN_n, qbIX_s, qbIX_n, qbVX_s, qbVX_n, cond_true, cond_false, cond_dec, jadd, jsub, jmul, jneg, li_0, li_1, li_2, li_3, li_4, li_5, li_6, li_7, li_8, li_9, li_10, li_14, li_15, li_16, li_19, li_20, li_24, li_30, li_31, li_32, li_39, li_40, li_48, li_57, li_59, li_60, li_63, li_65, li_80, li_81, li_90, li_97, li_99, li_100, li_122, li_126, li_127, li_150, li_160, li_200, li_225, li_255, li_400, li_799, li_800, li_999, li_2400, li_3239, li_3240, li_1048575, li_1431655765, li_858993459, li_252645135, eqb_j, ltb_j, leb_j, inb_j, ix_j, ix_n, nz_b, nz_0, nz_1, eqb_b, bnot, vI_ne, vI_eq, gIL, gLI, gIR, gRI, gLR, gRL, Int.reduceLT, Int.reduceLE, Int.reduceEq, Int.reduceAdd, Int.reduceSub, Int.reduceMul, Int.reduceNeg, Int.reduceToNat, Nat.reduceEqDiff, reduceIte, if_neg, if_pos, gI_ne, gIv 98, gIv 125, gIv 126]
        exact ih2
      · rw [show isLd (vI m) i = true from decide_eq_true h2] at ih2
        by_cases h3 : vI m 126 i = 1
        · rw [decide_eq_true h3] at ih2
          simp (disch := omega) only [fX13_valueOf_22, fX13_valueOf_83, fX13_valueOf_85, qbI_s, qbL_s, qbV_s, qbR_s, qbR_n, qbN_s, qbN_n, qbIX_s, qbIX_n, qbVX_s, qbVX_n, cond_true, cond_false, cond_dec, jadd, jsub, jmul, jneg, li_0, li_1, li_2, li_3, li_4, li_5, li_6, li_7, li_8, li_9, li_10, li_14, li_15, li_16, li_19, li_20, li_24, li_30, li_31, li_32, li_39, li_40, li_48, li_57, li_59, li_60, li_63, li_65, li_80, li_81, li_90, li_97, li_99, li_100, li_122, li_126, li_127, li_150, li_160, li_200, li_225, li_255, li_400, li_799, li_800, li_999, li_2400, li_3239, li_3240, li_1048575, li_1431655765, li_858993459, li_252645135, eqb_j, ltb_j, leb_j, inb_j, ix_j, ix_n, nz_b, nz_0, nz_1, eqb_b, bnot, vI_ne, vI_eq, gIL, gLI, gIR, gRI, gLR, gRL, Int.reduceLT, Int.reduceLE, Int.reduceEq, Int.reduceAdd, Int.reduceSub, Int.reduceMul, Int.reduceNeg, Int.reduceToNat, Nat.reduceEqDiff, reduceIte, if_neg, if_pos, gI_ne, gIv 98, gIv 125, gIv 126]
          exact ih2
        · rw [decide_eq_false h3] at ih2
          simp (disch := omega) only [fX13_valueOf_22, fX13_valueOf_83, fX13_valueOf_85, qbI_s, qbL_s, qbV_s, qbR_s, qbR_n, qbN_s, qbN_n, qbIX_s, qbIX_n, qbVX_s, qbVX_n, cond_true, cond_false, cond_dec, jadd, jsub, jmul, jneg, li_0, li_1, li_2, li_3, li_4, li_5, li_6, li_7, li_8, li_9, li_10, li_14, li_15, li_16, li_19, li_20, li_24, li_30, li_31, li_32, li_39, li_40, li_48, li_57, li_59, li_60, li_63, li_65, li_80, li_81, li_90, li_97, li_99, li_100, li_122, li_126, li_127, li_150, li_160, li_200, li_225, li_255, li_400, li_799, li_800, li_999, li_2400, li_3239, li_3240, li_1048575, li_1431655765, li_858993459, li_252645135, eqb_j, ltb_j, leb_j, inb_j, ix_j, ix_n, nz_b, nz_0, nz_1, eqb_b, bnot, vI_ne, vI_eq, gIL, gLI, gIR, gRI, gLR, gRL, Int.reduceLT, Int.reduceLE, Int.reduceEq, Int.reduceAdd, Int.reduceSub, Int.reduceMul, Int.reduceNeg, Int.reduceToNat, Nat.reduceEqDiff, reduceIte, if_neg, if_pos, gI_ne, gIv 98, gIv 125, gIv 126]
          simp only [Int.add_zero]
          exact ih2
  obtain ⟨g, hg⟩ := FU_s 0 (by decide)
  have k0 := key (vI m 98 32).toNat 0 FU (by omega) (by rw [FU_d]; omega)
  rw [fX13_valueOf_d]
  simp only [fX13_valueOf_0]
  rw [show fX13_valueOf_4 fX13_valueOf_20 FU (Zi 0) 0 0 m = fX13_valueOf_20 (Zi 0) 0 m by
    rw [hg]
    simp (disch := omega) only [fX13_valueOf_4, qbI_s, qbL_s, qbV_s, qbR_s, qbR_n, qbN_s, qbN_n, qbIX_s, qbIX_n, qbVX_s, qbVX_n, cond_true, cond_false, cond_dec, jadd, jsub, jmul, jneg, li_0, li_1, li_2, li_3, li_4, li_5, li_6, li_7, li_8, li_9, li_10, li_14, li_15, li_16, li_19, li_20, li_24, li_30, li_31, li_32, li_39, li_40, li_48, li_57, li_59, li_60, li_63, li_65, li_80, li_81, li_90, li_97, li_99, li_100, li_122, li_126, li_127, li_150, li_160, li_200, li_225, li_255, li_400, li_799, li_800, li_999, li_2400, li_3239, li_3240, li_1048575, li_1431655765, li_858993459, li_252645135, eqb_j, ltb_j, leb_j, inb_j, ix_j, ix_n, nz_b, nz_0, nz_1, eqb_b, bnot, vI_ne, vI_eq, gIL, gLI, gIR, gRI, gLR, gRL, Int.reduceLT, Int.reduceLE, Int.reduceEq, Int.reduceAdd, Int.reduceSub, Int.reduceMul, Int.reduceNeg, Int.reduceToNat, Nat.reduceEqDiff, reduceIte, if_neg, if_pos, gI_ne]]
  exact k0
theorem valueOf1 (m : qM) (hM : MOk m) : fX13_valueOf (Zi 1) m = some (Zi (vA (vI m)), m) := by
  have n1 := hM.2.2.2.2.1
  have n2 := hM.2.2.2.2.2.1
  have key : ∀ (r i g : Nat), i + r = (vI m 98 32).toNat → r < g → fX13_valueOf_22 fX13_valueOf_87 g (Zi 1) (Zi (fb_ct (fun k => isLd (vI m) k) i)) (Zi i) m = some (Zi (vA (vI m)), m) := by
    intro r
    induction r with
    | zero =>
      intro i g hi hg
      obtain ⟨g, rfl⟩ : ∃ g', g = g' + 1 := ⟨g - 1, by omega⟩
      simp (disch := omega) only [fX13_valueOf_22, fX13_valueOf_87, qbI_s, qbL_s, qbV_s, qbR_s, qbR_n, qbN_s, qbN_n, qbIX_s, qbIX_n, qbVX_s, qbVX_n, cond_true, cond_false, cond_dec, jadd, jsub, jmul, jneg, li_0, li_1, li_2, li_3, li_4, li_5, li_6, li_7, li_8, li_9, li_10, li_14, li_15, li_16, li_19, li_20, li_24, li_30, li_31, li_32, li_39, li_40, li_48, li_57, li_59, li_60, li_63, li_65, li_80, li_81, li_90, li_97, li_99, li_100, li_122, li_126, li_127, li_150, li_160, li_200, li_225, li_255, li_400, li_799, li_800, li_999, li_2400, li_3239, li_3240, li_1048575, li_1431655765, li_858993459, li_252645135, eqb_j, ltb_j, leb_j, inb_j, ix_j, ix_n, nz_b, nz_0, nz_1, eqb_b, bnot, vI_ne, vI_eq, gIL, gLI, gIR, gRI, gLR, gRL, Int.reduceLT, Int.reduceLE, Int.reduceEq, Int.reduceAdd, Int.reduceSub, Int.reduceMul, Int.reduceNeg, Int.reduceToNat, Nat.reduceEqDiff, reduceIte, if_neg, if_pos, gI_ne, gIv 98]
      rw [show i = (vI m 98 32).toNat by omega]
      rfl
    | succ r ih =>
      intro i g hi hg
      obtain ⟨g, rfl⟩ : ∃ g', g = g' + 1 := ⟨g - 1, by omega⟩
      have ih2 := ih (i + 1) g (by omega) (by omega)
      have hk := hM.2.2.2.2.2.2 i (by omega)
      rw [fb_ct_succ] at ih2
      by_cases h2 : vI m 125 i = -1
      · rw [show isLd (vI m) i = false from decide_eq_false (fun z => z h2)] at ih2
        simp (disch := omega) only [fX13_valueOf_22, fX13_valueOf_83, fX13_valueOf_85, qbI_s, qbL_s, qbV_s, qbR_s, qbR_n, qbN_s, qbN_n, qbIX_s, qbIX_n, qbVX_s, qbVX_n, cond_true, cond_false, cond_dec, jadd, jsub, jmul, jneg, li_0, li_1, li_2, li_3, li_4, li_5, li_6, li_7, li_8, li_9, li_10, li_14, li_15, li_16, li_19, li_20, li_24, li_30, li_31, li_32, li_39, li_40, li_48, li_57, li_59, li_60, li_63, li_65, li_80, li_81, li_90, li_97, li_99, li_100, li_122, li_126, li_127, li_150, li_160, li_200, li_225, li_255, li_400, li_799, li_800, li_999, li_2400, li_3239, li_3240, li_1048575, li_1431655765, li_858993459, li_252645135, eqb_j, ltb_j, leb_j, inb_j, ix_j, ix_n, nz_b, nz_0, nz_1, eqb_b, bnot, vI_ne, vI_eq, gIL, gLI, gIR, gRI, gLR, gRL, Int.reduceLT, Int.reduceLE, Int.reduceEq, Int.reduceAdd, Int.reduceSub, Int.reduceMul, Int.reduceNeg, Int.reduceToNat, Nat.reduceEqDiff, reduceIte, if_neg, if_pos, gI_ne, gIv 98, gIv 125]
        exact ih2
      · rw [show isLd (vI m) i = true from decide_eq_true h2] at ih2
        simp (disch := omega) only [fX13_valueOf_22, fX13_valueOf_83, fX13_valueOf_85, qbI_s, qbL_s, qbV_s, qbR_s, qbR_n, qbN_s, qbN_n, qbIX_s, qbIX_n, qbVX_s, qbVX_n, cond_true, cond_false, cond_dec, jadd, jsub, jmul, jneg, li_0, li_1, li_2, li_3, li_4, li_5, li_6, li_7, li_8, li_9, li_10, li_14, li_15, li_16, li_19, li_20, li_24, li_30, li_31, li_32, li_39, li_40, li_48, li_57, li_59, li_60, li_63, li_65, li_80, li_81, li_90, li_97, li_99, li_100, li_122, li_126, li_127, li_150, li_160, li_200, li_225, li_255, li_400, li_799, li_800, li_999, li_2400, li_3239, li_3240, li_1048575, li_1431655765, li_858993459, li_252645135, eqb_j, ltb_j, leb_j, inb_j, ix_j, ix_n, nz_b, nz_0, nz_1, eqb_b, bnot, vI_ne, vI_eq, gIL, gLI, gIR, gRI, gLR, gRL, Int.reduceLT, Int.reduceLE, Int.reduceEq, Int.reduceAdd, Int.reduceSub, Int.reduceMul, Int.reduceNeg, Int.reduceToNat, Nat.reduceEqDiff, reduceIte, if_neg, if_pos, gI_ne, gIv 98, gIv 125]
        exact ih2
  obtain ⟨g, hg⟩ := FU_s 0 (by decide)
  have k0 := key (vI m 98 32).toNat 0 FU (by omega) (by rw [FU_d]; omega)
  rw [fX13_valueOf_d]
  simp only [fX13_valueOf_0]
  rw [show fX13_valueOf_4 fX13_valueOf_20 FU (Zi 1) 0 0 m = fX13_valueOf_20 (Zi 1) 0 m by
    rw [hg]
    simp (disch := omega) only [fX13_valueOf_4, qbI_s, qbL_s, qbV_s, qbR_s, qbR_n, qbN_s, qbN_n, qbIX_s, qbIX_n, qbVX_s, qbVX_n, cond_true, cond_false, cond_dec, jadd, jsub, jmul, jneg, li_0, li_1, li_2, li_3, li_4, li_5, li_6, li_7, li_8, li_9, li_10, li_14, li_15, li_16, li_19, li_20, li_24, li_30, li_31, li_32, li_39, li_40, li_48, li_57, li_59, li_60, li_63, li_65, li_80, li_81, li_90, li_97, li_99, li_100, li_122, li_126, li_127, li_150, li_160, li_200, li_225, li_255, li_400, li_799, li_800, li_999, li_2400, li_3239, li_3240, li_1048575, li_1431655765, li_858993459, li_252645135, eqb_j, ltb_j, leb_j, inb_j, ix_j, ix_n, nz_b, nz_0, nz_1, eqb_b, bnot, vI_ne, vI_eq, gIL, gLI, gIR, gRI, gLR, gRL, Int.reduceLT, Int.reduceLE, Int.reduceEq, Int.reduceAdd, Int.reduceSub, Int.reduceMul, Int.reduceNeg, Int.reduceToNat, Nat.reduceEqDiff, reduceIte, if_neg, if_pos, gI_ne]]
  exact k0
theorem valueOf2 (m : qM) (hM : MOk m) (hCl : CClash m (vI m)) : fX13_valueOf (Zi 2) m = some (Zi (vW (vI m)), m) := by
  have n1 := hM.2.2.2.2.1
  have n2 := hM.2.2.2.2.2.1
  obtain ⟨g0, hg0⟩ := FU_s 0 (by decide)
  have key : ∀ (r i g : Nat), i + r = 15 → r < g → fX13_valueOf_4 fX13_valueOf_20 g (Zi 2) (Zi (fb_sm (fun f => gapD (vI m) f) i)) (Zi i) m = some (Zi (vW (vI m)), m) := by
    intro r
    induction r with
    | zero =>
      intro i g hi hg
      obtain ⟨g, rfl⟩ : ∃ g', g = g' + 1 := ⟨g - 1, by omega⟩
      have : i = 15 := by omega
      subst this
      simp (disch := omega) only [fX13_valueOf_4, fX13_valueOf_20, hg0, fX13_valueOf_22, fX13_valueOf_87, qbI_s, qbL_s, qbV_s, qbR_s, qbR_n, qbN_s, qbN_n, qbIX_s, qbIX_n, qbVX_s, qbVX_n, cond_true, cond_false, cond_dec, jadd, jsub, jmul, jneg, li_0, li_1, li_2, li_3, li_4, li_5, li_6, li_7, li_8, li_9, li_10, li_14, li_15, li_16, li_19, li_20, li_24, li_30, li_31, li_32, li_39, li_40, li_48, li_57, li_59, li_60, li_63, li_65, li_80, li_81, li_90, li_97, li_99, li_100, li_122, li_126, li_127, li_150, li_160, li_200, li_225, li_255, li_400, li_799, li_800, li_999, li_2400, li_3239, li_3240, li_1048575, li_1431655765, li_858993459, li_252645135, eqb_j, ltb_j, leb_j, inb_j, ix_j, ix_n, nz_b, nz_0, nz_1, eqb_b, bnot, vI_ne, vI_eq, gIL, gLI, gIR, gRI, gLR, gRL, Int.reduceLT, Int.reduceLE, Int.reduceEq, Int.reduceAdd, Int.reduceSub, Int.reduceMul, Int.reduceNeg, Int.reduceToNat, Nat.reduceEqDiff, reduceIte, if_neg, if_pos, gI_ne, gIv 98]
      split <;> rfl
    | succ r ih =>
      intro i g hi hg
      obtain ⟨g, rfl⟩ : ∃ g', g = g' + 1 := ⟨g - 1, by omega⟩
      have ih2 := ih (i + 1) g (by omega) (by omega)
      have hw := waitsOf_s m hM hCl i (by omega)
      have hle := gapD_le (vI m) i
      have hmx : max 0 (wtV (vI m) i) = gapD (vI m) i := by
        unfold wtV
        by_cases h : fb_ct (wC (vI m) i) (vI m 98 32).toNat = 0
        · rw [if_pos h, (gap_none (vI m) n1 i h).1]
          rfl
        · rw [if_neg h]
          omega
      have hwr : -1 ≤ wtV (vI m) i ∧ wtV (vI m) i ≤ 32 := by
        unfold wtV
        split <;> omega
      rw [fb_sm_succ] at ih2
      simp (disch := omega) only [fX13_valueOf_4, qbI_s, qbL_s, qbV_s, qbR_s, qbR_n, qbN_s, qbN_n, qbIX_s, qbIX_n, qbVX_s, qbVX_n, cond_true, cond_false, cond_dec, jadd, jsub, jmul, jneg, li_0, li_1, li_2, li_3, li_4, li_5, li_6, li_7, li_8, li_9, li_10, li_14, li_15, li_16, li_19, li_20, li_24, li_30, li_31, li_32, li_39, li_40, li_48, li_57, li_59, li_60, li_63, li_65, li_80, li_81, li_90, li_97, li_99, li_100, li_122, li_126, li_127, li_150, li_160, li_200, li_225, li_255, li_400, li_799, li_800, li_999, li_2400, li_3239, li_3240, li_1048575, li_1431655765, li_858993459, li_252645135, eqb_j, ltb_j, leb_j, inb_j, ix_j, ix_n, nz_b, nz_0, nz_1, eqb_b, bnot, vI_ne, vI_eq, gIL, gLI, gIR, gRI, gLR, gRL, Int.reduceLT, Int.reduceLE, Int.reduceEq, Int.reduceAdd, Int.reduceSub, Int.reduceMul, Int.reduceNeg, Int.reduceToNat, Nat.reduceEqDiff, reduceIte, if_neg, if_pos, gI_ne, hw, max_s, hmx]
      exact ih2
  rw [fX13_valueOf_d]
  simp only [fX13_valueOf_0]
  exact key 15 0 FU (by omega) (by rw [FU_d]; omega)
theorem valueOf3 (m : qM) (hM : MOk m) : fX13_valueOf (Zi 3) m = some (Zi (vP (vI m)), m) := by
  have n1 := hM.2.2.2.2.1
  have n2 := hM.2.2.2.2.2.1
  have key : ∀ (r i g : Nat), i + r = (vI m 98 32).toNat → r < g → fX13_valueOf_22 fX13_valueOf_87 g (Zi 3) (Zi (fb_si (fun k => ptV (vI m) k) i)) (Zi i) m = some (Zi (vP (vI m)), m) := by
    intro r
    induction r with
    | zero =>
      intro i g hi hg
      obtain ⟨g, rfl⟩ : ∃ g', g = g' + 1 := ⟨g - 1, by omega⟩
      simp (disch := omega) only [fX13_valueOf_22, fX13_valueOf_87, qbI_s, qbL_s, qbV_s, qbR_s, qbR_n, qbN_s, qbN_n, qbIX_s, qbIX_n, qbVX_s, qbVX_n, cond_true, cond_false, cond_dec, jadd, jsub, jmul, jneg, li_0, li_1, li_2, li_3, li_4, li_5, li_6, li_7, li_8, li_9, li_10, li_14, li_15, li_16, li_19, li_20, li_24, li_30, li_31, li_32, li_39, li_40, li_48, li_57, li_59, li_60, li_63, li_65, li_80, li_81, li_90, li_97, li_99, li_100, li_122, li_126, li_127, li_150, li_160, li_200, li_225, li_255, li_400, li_799, li_800, li_999, li_2400, li_3239, li_3240, li_1048575, li_1431655765, li_858993459, li_252645135, eqb_j, ltb_j, leb_j, inb_j, ix_j, ix_n, nz_b, nz_0, nz_1, eqb_b, bnot, vI_ne, vI_eq, gIL, gLI, gIR, gRI, gLR, gRL, Int.reduceLT, Int.reduceLE, Int.reduceEq, Int.reduceAdd, Int.reduceSub, Int.reduceMul, Int.reduceNeg, Int.reduceToNat, Nat.reduceEqDiff, reduceIte, if_neg, if_pos, gI_ne, gIv 98]
      rw [show i = (vI m 98 32).toNat by omega]
      rfl
    | succ r ih =>
      intro i g hi hg
      obtain ⟨g, rfl⟩ : ∃ g', g = g' + 1 := ⟨g - 1, by omega⟩
      have ih2 := ih (i + 1) g (by omega) (by omega)
      have hk := hM.2.2.2.2.2.2 i (by omega)
      obtain ⟨f, hf⟩ : ∃ f : Nat, vI m 123 i = f := ⟨(vI m 123 i).toNat, by omega⟩
      have hq := hM.2.2.1 f (by omega)
      rw [fb_si_succ] at ih2
      have hpt : ptV (vI m) i = if vI m 125 i ≠ -1 ∧ vI m 119 f ≤ vI m 125 i ∧ vI m 125 i ≤ vI m 120 f then 1 + vI m 121 f else 0 := by
        unfold ptV
        rw [hf, Int.toNat_natCast]
      rw [hpt] at ih2
      by_cases h2 : vI m 125 i = -1
      · rw [if_neg (fun z => z.1 h2)] at ih2
        simp (disch := omega) only [fX13_valueOf_22, fX13_valueOf_83, fX13_valueOf_85, qbI_s, qbL_s, qbV_s, qbR_s, qbR_n, qbN_s, qbN_n, qbIX_s, qbIX_n, qbVX_s, qbVX_n, cond_true, cond_false, cond_dec, jadd, jsub, jmul, jneg, li_0, li_1, li_2, li_3, li_4, li_5, li_6, li_7, li_8, li_9, li_10, li_14, li_15, li_16, li_19, li_20, li_24, li_30, li_31, li_32, li_39, li_40, li_48, li_57, li_59, li_60, li_63, li_65, li_80, li_81, li_90, li_97, li_99, li_100, li_122, li_126, li_127, li_150, li_160, li_200, li_225, li_255, li_400, li_799, li_800, li_999, li_2400, li_3239, li_3240, li_1048575, li_1431655765, li_858993459, li_252645135, eqb_j, ltb_j, leb_j, inb_j, ix_j, ix_n, nz_b, nz_0, nz_1, eqb_b, bnot, vI_ne, vI_eq, gIL, gLI, gIR, gRI, gLR, gRL, Int.reduceLT, Int.reduceLE, Int.reduceEq, Int.reduceAdd, Int.reduceSub, Int.reduceMul, Int.reduceNeg, Int.reduceToNat, Nat.reduceEqDiff, reduceIte, if_neg, if_pos, gI_ne, gIv 98, gIv 125]
        rw [Int.add_zero] at ih2
        exact ih2
      · by_cases h3 : vI m 119 f ≤ vI m 125 i ∧ vI m 125 i ≤ vI m 120 f
        · rw [if_pos ⟨h2, h3⟩] at ih2
          simp (disch := omega) only [fX13_valueOf_22, fX13_valueOf_83, fX13_valueOf_85, qbI_s, qbL_s, qbV_s, qbR_s, qbR_n, qbN_s, qbN_n, qbIX_s, qbIX_n, qbVX_s, qbVX_n, cond_true, cond_false, cond_dec, jadd, jsub, jmul, jneg, li_0, li_1, li_2, li_3, li_4, li_5, li_6, li_7, li_8, li_9, li_10, li_14, li_15, li_16, li_19, li_20, li_24, li_30, li_31, li_32, li_39, li_40, li_48, li_57, li_59, li_60, li_63, li_65, li_80, li_81, li_90, li_97, li_99, li_100, li_122, li_126, li_127, li_150, li_160, li_200, li_225, li_255, li_400, li_799, li_800, li_999, li_2400, li_3239, li_3240, li_1048575, li_1431655765, li_858993459, li_252645135, eqb_j, ltb_j, leb_j, inb_j, ix_j, ix_n, nz_b, nz_0, nz_1, eqb_b, bnot, vI_ne, vI_eq, gIL, gLI, gIR, gRI, gLR, gRL, Int.reduceLT, Int.reduceLE, Int.reduceEq, Int.reduceAdd, Int.reduceSub, Int.reduceMul, Int.reduceNeg, Int.reduceToNat, Nat.reduceEqDiff, reduceIte, if_neg, if_pos, gI_ne, ll_0, ll_1, ll_3, ll_5, ll_9, ll_10, ll_13, ll_14, ll_19, ll_20, ll_32, ll_60, ll_126, ll_799, ll_1024, ll_1048576, ll_67108864, Zladd, Zlsub, Zlmul, Zlneg, toL, lg_lt, lg_gt, lg_le, gIv 98, gIv 125, gIv 123, hf, gIv 119, gIv 120, gIv 121, in_s]
          exact ih2
        · rw [if_neg (fun z => h3 z.2)] at ih2
          simp (disch := omega) only [fX13_valueOf_22, fX13_valueOf_83, fX13_valueOf_85, qbI_s, qbL_s, qbV_s, qbR_s, qbR_n, qbN_s, qbN_n, qbIX_s, qbIX_n, qbVX_s, qbVX_n, cond_true, cond_false, cond_dec, jadd, jsub, jmul, jneg, li_0, li_1, li_2, li_3, li_4, li_5, li_6, li_7, li_8, li_9, li_10, li_14, li_15, li_16, li_19, li_20, li_24, li_30, li_31, li_32, li_39, li_40, li_48, li_57, li_59, li_60, li_63, li_65, li_80, li_81, li_90, li_97, li_99, li_100, li_122, li_126, li_127, li_150, li_160, li_200, li_225, li_255, li_400, li_799, li_800, li_999, li_2400, li_3239, li_3240, li_1048575, li_1431655765, li_858993459, li_252645135, eqb_j, ltb_j, leb_j, inb_j, ix_j, ix_n, nz_b, nz_0, nz_1, eqb_b, bnot, vI_ne, vI_eq, gIL, gLI, gIR, gRI, gLR, gRL, Int.reduceLT, Int.reduceLE, Int.reduceEq, Int.reduceAdd, Int.reduceSub, Int.reduceMul, Int.reduceNeg, Int.reduceToNat, Nat.reduceEqDiff, reduceIte, if_neg, if_pos, gI_ne, ll_0, ll_1, ll_3, ll_5, ll_9, ll_10, ll_13, ll_14, ll_19, ll_20, ll_32, ll_60, ll_126, ll_799, ll_1024, ll_1048576, ll_67108864, Zladd, Zlsub, Zlmul, Zlneg, toL, lg_lt, lg_gt, lg_le, gIv 98, gIv 125, gIv 123, hf, gIv 119, gIv 120, gIv 121, in_s]
          exact ih2
  obtain ⟨g, hg⟩ := FU_s 0 (by decide)
  have k0 := key (vI m 98 32).toNat 0 FU (by omega) (by rw [FU_d]; omega)
  rw [fX13_valueOf_d]
  simp only [fX13_valueOf_0]
  rw [show fX13_valueOf_4 fX13_valueOf_20 FU (Zi 3) 0 0 m = fX13_valueOf_20 (Zi 3) 0 m by
    rw [hg]
    simp (disch := omega) only [fX13_valueOf_4, qbI_s, qbL_s, qbV_s, qbR_s, qbR_n, qbN_s, qbN_n, qbIX_s, qbIX_n, qbVX_s, qbVX_n, cond_true, cond_false, cond_dec, jadd, jsub, jmul, jneg, li_0, li_1, li_2, li_3, li_4, li_5, li_6, li_7, li_8, li_9, li_10, li_14, li_15, li_16, li_19, li_20, li_24, li_30, li_31, li_32, li_39, li_40, li_48, li_57, li_59, li_60, li_63, li_65, li_80, li_81, li_90, li_97, li_99, li_100, li_122, li_126, li_127, li_150, li_160, li_200, li_225, li_255, li_400, li_799, li_800, li_999, li_2400, li_3239, li_3240, li_1048575, li_1431655765, li_858993459, li_252645135, eqb_j, ltb_j, leb_j, inb_j, ix_j, ix_n, nz_b, nz_0, nz_1, eqb_b, bnot, vI_ne, vI_eq, gIL, gLI, gIR, gRI, gLR, gRL, Int.reduceLT, Int.reduceLE, Int.reduceEq, Int.reduceAdd, Int.reduceSub, Int.reduceMul, Int.reduceNeg, Int.reduceToNat, Nat.reduceEqDiff, reduceIte, if_neg, if_pos, gI_ne]]
  exact k0
theorem op_value (m : qM) (hR : R0 m) (a : Int) (ha : -2147483648 ≤ a ∧ a < 2147483648) : QOp m (fX11_value (Zi a)) (fX13_value (Zi a)) := by
  have hC := CAll.of hR
  have hM := MOk.of hR
  obtain ⟨c1, c2, c3, c4⟩ := cnt_C hC
  have hCl : CClash m (vI m) := hC.2.2.2.2.2.2.2.1
  by_cases g0 : a = 0
  · subst g0
    refine QOp.same (x := Zi (vM (vI m))) hR ?_ ?_
    · rw [fX11_value_d]
      simp (disch := omega) only [fX11_value_0, fX4_mustsLaid_d, fX4_mustsLaid_0, qbI_s, qbL_s, qbV_s, qbR_s, qbR_n, qbN_s, qbN_n, qbIX_s, qbIX_n, qbVX_s, qbVX_n, cond_true, cond_false, cond_dec, jadd, jsub, jmul, jneg, li_0, li_1, li_2, li_3, li_4, li_5, li_6, li_7, li_8, li_9, li_10, li_14, li_15, li_16, li_19, li_20, li_24, li_30, li_31, li_32, li_39, li_40, li_48, li_57, li_59, li_60, li_63, li_65, li_80, li_81, li_90, li_97, li_99, li_100, li_122, li_126, li_127, li_150, li_160, li_200, li_225, li_255, li_400, li_799, li_800, li_999, li_2400, li_3239, li_3240, li_1048575, li_1431655765, li_858993459, li_252645135, eqb_j, ltb_j, leb_j, inb_j, ix_j, ix_n, nz_b, nz_0, nz_1, eqb_b, bnot, vI_ne, vI_eq, gIL, gLI, gIR, gRI, gLR, gRL, Int.reduceLT, Int.reduceLE, Int.reduceEq, Int.reduceAdd, Int.reduceSub, Int.reduceMul, Int.reduceNeg, Int.reduceToNat, Nat.reduceEqDiff, reduceIte, if_neg, if_pos, gI_ne, gIv 58, c2]
    · rw [fX13_value_d]
      simp (disch := omega) only [fX13_value_0, fX13_value_11, qbI_s, qbL_s, qbV_s, qbR_s, qbR_n, qbN_s, qbN_n, qbIX_s, qbIX_n, qbVX_s, qbVX_n, cond_true, cond_false, cond_dec, jadd, jsub, jmul, jneg, li_0, li_1, li_2, li_3, li_4, li_5, li_6, li_7, li_8, li_9, li_10, li_14, li_15, li_16, li_19, li_20, li_24, li_30, li_31, li_32, li_39, li_40, li_48, li_57, li_59, li_60, li_63, li_65, li_80, li_81, li_90, li_97, li_99, li_100, li_122, li_126, li_127, li_150, li_160, li_200, li_225, li_255, li_400, li_799, li_800, li_999, li_2400, li_3239, li_3240, li_1048575, li_1431655765, li_858993459, li_252645135, eqb_j, ltb_j, leb_j, inb_j, ix_j, ix_n, nz_b, nz_0, nz_1, eqb_b, bnot, vI_ne, vI_eq, gIL, gLI, gIR, gRI, gLR, gRL, Int.reduceLT, Int.reduceLE, Int.reduceEq, Int.reduceAdd, Int.reduceSub, Int.reduceMul, Int.reduceNeg, Int.reduceToNat, Nat.reduceEqDiff, reduceIte, if_neg, if_pos, gI_ne, ll_0, ll_1, ll_3, ll_5, ll_9, ll_10, ll_13, ll_14, ll_19, ll_20, ll_32, ll_60, ll_126, ll_799, ll_1024, ll_1048576, ll_67108864, Zladd, Zlsub, Zlmul, Zlneg, toL, lg_lt, lg_gt, lg_le, in_s, and_self, valueOf0 m hM]
  · by_cases g1 : a = 1
    · subst g1
      refine QOp.same (x := Zi (vA (vI m))) hR ?_ ?_
      · rw [fX11_value_d]
        simp (disch := omega) only [fX11_value_0, fX4_laid_d, fX4_laid_0, qbI_s, qbL_s, qbV_s, qbR_s, qbR_n, qbN_s, qbN_n, qbIX_s, qbIX_n, qbVX_s, qbVX_n, cond_true, cond_false, cond_dec, jadd, jsub, jmul, jneg, li_0, li_1, li_2, li_3, li_4, li_5, li_6, li_7, li_8, li_9, li_10, li_14, li_15, li_16, li_19, li_20, li_24, li_30, li_31, li_32, li_39, li_40, li_48, li_57, li_59, li_60, li_63, li_65, li_80, li_81, li_90, li_97, li_99, li_100, li_122, li_126, li_127, li_150, li_160, li_200, li_225, li_255, li_400, li_799, li_800, li_999, li_2400, li_3239, li_3240, li_1048575, li_1431655765, li_858993459, li_252645135, eqb_j, ltb_j, leb_j, inb_j, ix_j, ix_n, nz_b, nz_0, nz_1, eqb_b, bnot, vI_ne, vI_eq, gIL, gLI, gIR, gRI, gLR, gRL, Int.reduceLT, Int.reduceLE, Int.reduceEq, Int.reduceAdd, Int.reduceSub, Int.reduceMul, Int.reduceNeg, Int.reduceToNat, Nat.reduceEqDiff, reduceIte, if_neg, if_pos, gI_ne, gIv 58, c1]
      · rw [fX13_value_d]
        simp (disch := omega) only [fX13_value_0, fX13_value_11, qbI_s, qbL_s, qbV_s, qbR_s, qbR_n, qbN_s, qbN_n, qbIX_s, qbIX_n, qbVX_s, qbVX_n, cond_true, cond_false, cond_dec, jadd, jsub, jmul, jneg, li_0, li_1, li_2, li_3, li_4, li_5, li_6, li_7, li_8, li_9, li_10, li_14, li_15, li_16, li_19, li_20, li_24, li_30, li_31, li_32, li_39, li_40, li_48, li_57, li_59, li_60, li_63, li_65, li_80, li_81, li_90, li_97, li_99, li_100, li_122, li_126, li_127, li_150, li_160, li_200, li_225, li_255, li_400, li_799, li_800, li_999, li_2400, li_3239, li_3240, li_1048575, li_1431655765, li_858993459, li_252645135, eqb_j, ltb_j, leb_j, inb_j, ix_j, ix_n, nz_b, nz_0, nz_1, eqb_b, bnot, vI_ne, vI_eq, gIL, gLI, gIR, gRI, gLR, gRL, Int.reduceLT, Int.reduceLE, Int.reduceEq, Int.reduceAdd, Int.reduceSub, Int.reduceMul, Int.reduceNeg, Int.reduceToNat, Nat.reduceEqDiff, reduceIte, if_neg, if_pos, gI_ne, ll_0, ll_1, ll_3, ll_5, ll_9, ll_10, ll_13, ll_14, ll_19, ll_20, ll_32, ll_60, ll_126, ll_799, ll_1024, ll_1048576, ll_67108864, Zladd, Zlsub, Zlmul, Zlneg, toL, lg_lt, lg_gt, lg_le, in_s, and_self, valueOf1 m hM]
    · by_cases g2 : a = 2
      · subst g2
        refine QOp.same (x := Zi (vW (vI m))) hR ?_ ?_
        · rw [fX11_value_d]
          simp (disch := omega) only [fX11_value_0, fX4_waitsOfAll_d, fX4_waitsOfAll_0, qbI_s, qbL_s, qbV_s, qbR_s, qbR_n, qbN_s, qbN_n, qbIX_s, qbIX_n, qbVX_s, qbVX_n, cond_true, cond_false, cond_dec, jadd, jsub, jmul, jneg, li_0, li_1, li_2, li_3, li_4, li_5, li_6, li_7, li_8, li_9, li_10, li_14, li_15, li_16, li_19, li_20, li_24, li_30, li_31, li_32, li_39, li_40, li_48, li_57, li_59, li_60, li_63, li_65, li_80, li_81, li_90, li_97, li_99, li_100, li_122, li_126, li_127, li_150, li_160, li_200, li_225, li_255, li_400, li_799, li_800, li_999, li_2400, li_3239, li_3240, li_1048575, li_1431655765, li_858993459, li_252645135, eqb_j, ltb_j, leb_j, inb_j, ix_j, ix_n, nz_b, nz_0, nz_1, eqb_b, bnot, vI_ne, vI_eq, gIL, gLI, gIR, gRI, gLR, gRL, Int.reduceLT, Int.reduceLE, Int.reduceEq, Int.reduceAdd, Int.reduceSub, Int.reduceMul, Int.reduceNeg, Int.reduceToNat, Nat.reduceEqDiff, reduceIte, if_neg, if_pos, gI_ne, gIv 58, c3]
        · rw [fX13_value_d]
          simp (disch := omega) only [fX13_value_0, fX13_value_11, qbI_s, qbL_s, qbV_s, qbR_s, qbR_n, qbN_s, qbN_n, qbIX_s, qbIX_n, qbVX_s, qbVX_n, cond_true, cond_false, cond_dec, jadd, jsub, jmul, jneg, li_0, li_1, li_2, li_3, li_4, li_5, li_6, li_7, li_8, li_9, li_10, li_14, li_15, li_16, li_19, li_20, li_24, li_30, li_31, li_32, li_39, li_40, li_48, li_57, li_59, li_60, li_63, li_65, li_80, li_81, li_90, li_97, li_99, li_100, li_122, li_126, li_127, li_150, li_160, li_200, li_225, li_255, li_400, li_799, li_800, li_999, li_2400, li_3239, li_3240, li_1048575, li_1431655765, li_858993459, li_252645135, eqb_j, ltb_j, leb_j, inb_j, ix_j, ix_n, nz_b, nz_0, nz_1, eqb_b, bnot, vI_ne, vI_eq, gIL, gLI, gIR, gRI, gLR, gRL, Int.reduceLT, Int.reduceLE, Int.reduceEq, Int.reduceAdd, Int.reduceSub, Int.reduceMul, Int.reduceNeg, Int.reduceToNat, Nat.reduceEqDiff, reduceIte, if_neg, if_pos, gI_ne, ll_0, ll_1, ll_3, ll_5, ll_9, ll_10, ll_13, ll_14, ll_19, ll_20, ll_32, ll_60, ll_126, ll_799, ll_1024, ll_1048576, ll_67108864, Zladd, Zlsub, Zlmul, Zlneg, toL, lg_lt, lg_gt, lg_le, in_s, and_self, valueOf2 m hM hCl]
      · by_cases g3 : a = 3
        · subst g3
          refine QOp.same (x := Zi (vP (vI m))) hR ?_ ?_
          · rw [fX11_value_d]
            simp (disch := omega) only [fX11_value_0, fX4_points_d, fX4_points_0, qbI_s, qbL_s, qbV_s, qbR_s, qbR_n, qbN_s, qbN_n, qbIX_s, qbIX_n, qbVX_s, qbVX_n, cond_true, cond_false, cond_dec, jadd, jsub, jmul, jneg, li_0, li_1, li_2, li_3, li_4, li_5, li_6, li_7, li_8, li_9, li_10, li_14, li_15, li_16, li_19, li_20, li_24, li_30, li_31, li_32, li_39, li_40, li_48, li_57, li_59, li_60, li_63, li_65, li_80, li_81, li_90, li_97, li_99, li_100, li_122, li_126, li_127, li_150, li_160, li_200, li_225, li_255, li_400, li_799, li_800, li_999, li_2400, li_3239, li_3240, li_1048575, li_1431655765, li_858993459, li_252645135, eqb_j, ltb_j, leb_j, inb_j, ix_j, ix_n, nz_b, nz_0, nz_1, eqb_b, bnot, vI_ne, vI_eq, gIL, gLI, gIR, gRI, gLR, gRL, Int.reduceLT, Int.reduceLE, Int.reduceEq, Int.reduceAdd, Int.reduceSub, Int.reduceMul, Int.reduceNeg, Int.reduceToNat, Nat.reduceEqDiff, reduceIte, if_neg, if_pos, gI_ne, gIv 58, c4]
          · rw [fX13_value_d]
            simp (disch := omega) only [fX13_value_0, fX13_value_11, qbI_s, qbL_s, qbV_s, qbR_s, qbR_n, qbN_s, qbN_n, qbIX_s, qbIX_n, qbVX_s, qbVX_n, cond_true, cond_false, cond_dec, jadd, jsub, jmul, jneg, li_0, li_1, li_2, li_3, li_4, li_5, li_6, li_7, li_8, li_9, li_10, li_14, li_15, li_16, li_19, li_20, li_24, li_30, li_31, li_32, li_39, li_40, li_48, li_57, li_59, li_60, li_63, li_65, li_80, li_81, li_90, li_97, li_99, li_100, li_122, li_126, li_127, li_150, li_160, li_200, li_225, li_255, li_400, li_799, li_800, li_999, li_2400, li_3239, li_3240, li_1048575, li_1431655765, li_858993459, li_252645135, eqb_j, ltb_j, leb_j, inb_j, ix_j, ix_n, nz_b, nz_0, nz_1, eqb_b, bnot, vI_ne, vI_eq, gIL, gLI, gIR, gRI, gLR, gRL, Int.reduceLT, Int.reduceLE, Int.reduceEq, Int.reduceAdd, Int.reduceSub, Int.reduceMul, Int.reduceNeg, Int.reduceToNat, Nat.reduceEqDiff, reduceIte, if_neg, if_pos, gI_ne, ll_0, ll_1, ll_3, ll_5, ll_9, ll_10, ll_13, ll_14, ll_19, ll_20, ll_32, ll_60, ll_126, ll_799, ll_1024, ll_1048576, ll_67108864, Zladd, Zlsub, Zlmul, Zlneg, toL, lg_lt, lg_gt, lg_le, in_s, and_self, valueOf3 m hM]
        · refine QOp.same (x := Zi (-1)) hR ?_ ?_
          · rw [fX11_value_d]
            simp (disch := omega) only [fX11_value_0, qbI_s, qbL_s, qbV_s, qbR_s, qbR_n, qbN_s, qbN_n, qbIX_s, qbIX_n, qbVX_s, qbVX_n, cond_true, cond_false, cond_dec, jadd, jsub, jmul, jneg, li_0, li_1, li_2, li_3, li_4, li_5, li_6, li_7, li_8, li_9, li_10, li_14, li_15, li_16, li_19, li_20, li_24, li_30, li_31, li_32, li_39, li_40, li_48, li_57, li_59, li_60, li_63, li_65, li_80, li_81, li_90, li_97, li_99, li_100, li_122, li_126, li_127, li_150, li_160, li_200, li_225, li_255, li_400, li_799, li_800, li_999, li_2400, li_3239, li_3240, li_1048575, li_1431655765, li_858993459, li_252645135, eqb_j, ltb_j, leb_j, inb_j, ix_j, ix_n, nz_b, nz_0, nz_1, eqb_b, bnot, vI_ne, vI_eq, gIL, gLI, gIR, gRI, gLR, gRL, Int.reduceLT, Int.reduceLE, Int.reduceEq, Int.reduceAdd, Int.reduceSub, Int.reduceMul, Int.reduceNeg, Int.reduceToNat, Nat.reduceEqDiff, reduceIte, if_neg, if_pos, gI_ne]
          · rw [fX13_value_d]
            simp (disch := omega) only [fX13_value_0, fX13_value_11, qbI_s, qbL_s, qbV_s, qbR_s, qbR_n, qbN_s, qbN_n, qbIX_s, qbIX_n, qbVX_s, qbVX_n, cond_true, cond_false, cond_dec, jadd, jsub, jmul, jneg, li_0, li_1, li_2, li_3, li_4, li_5, li_6, li_7, li_8, li_9, li_10, li_14, li_15, li_16, li_19, li_20, li_24, li_30, li_31, li_32, li_39, li_40, li_48, li_57, li_59, li_60, li_63, li_65, li_80, li_81, li_90, li_97, li_99, li_100, li_122, li_126, li_127, li_150, li_160, li_200, li_225, li_255, li_400, li_799, li_800, li_999, li_2400, li_3239, li_3240, li_1048575, li_1431655765, li_858993459, li_252645135, eqb_j, ltb_j, leb_j, inb_j, ix_j, ix_n, nz_b, nz_0, nz_1, eqb_b, bnot, vI_ne, vI_eq, gIL, gLI, gIR, gRI, gLR, gRL, Int.reduceLT, Int.reduceLE, Int.reduceEq, Int.reduceAdd, Int.reduceSub, Int.reduceMul, Int.reduceNeg, Int.reduceToNat, Nat.reduceEqDiff, reduceIte, if_neg, if_pos, gI_ne, ll_0, ll_1, ll_3, ll_5, ll_9, ll_10, ll_13, ll_14, ll_19, ll_20, ll_32, ll_60, ll_126, ll_799, ll_1024, ll_1048576, ll_67108864, Zladd, Zlsub, Zlmul, Zlneg, toL, lg_lt, lg_gt, lg_le, in_s]
theorem op_waits (m : qM) (hR : R0 m) (a : Int) (ha : -2147483648 ≤ a ∧ a < 2147483648) : QOp m (fX11_waits (Zi a)) (fX13_waits (Zi a)) := by
  have hC := CAll.of hR
  have hM := MOk.of hR
  have hCl : CClash m (vI m) := hC.2.2.2.2.2.2.2.1
  have n1 := hM.2.2.2.2.1
  by_cases h1 : 0 ≤ a ∧ a ≤ 14
  · obtain ⟨f, rfl⟩ : ∃ f : Nat, a = f := ⟨a.toNat, by omega⟩
    have hb := bt_lf hC f (by omega)
    have h31 : bt (gI m 65 f) 31 = false := by
      rw [hb]
      exact pd_f fun ⟨o, h1, h2, h3⟩ => by have := (hM.2.2.2.2.2.2 o h1).2.2.2; omega
    refine QOp.same (x := Zi (wtV (vI m) f)) hR ?_ ?_
    · have g := gaps_s (gI m 65 f) h31 m
      rw [gap_D hC f (by omega)] at g
      rw [fX11_waits_d]
      unfold wtV
      by_cases h : fb_ct (wC (vI m) f) (vI m 98 32).toNat = 0
      · have z : gI m 65 f = 0 := b_ext fun i _ => by rw [hb, (gap_none (vI m) n1 f h).2, b_0]
        have z2 : eqb (gI m 65 f) (Zi 0) = true := by rw [z, eqb_d]; rfl
        rw [if_pos h]
        simp (disch := omega) only [fX11_waits_0, fX11_waits_16, fX4_laidOfFamily_d, fX4_laidOfFamily_0, qbI_s, qbL_s, qbV_s, qbR_s, qbR_n, qbN_s, qbN_n, qbIX_s, qbIX_n, qbVX_s, qbVX_n, cond_true, cond_false, cond_dec, jadd, jsub, jmul, jneg, li_0, li_1, li_2, li_3, li_4, li_5, li_6, li_7, li_8, li_9, li_10, li_14, li_15, li_16, li_19, li_20, li_24, li_30, li_31, li_32, li_39, li_40, li_48, li_57, li_59, li_60, li_63, li_65, li_80, li_81, li_90, li_97, li_99, li_100, li_122, li_126, li_127, li_150, li_160, li_200, li_225, li_255, li_400, li_799, li_800, li_999, li_2400, li_3239, li_3240, li_1048575, li_1431655765, li_858993459, li_252645135, eqb_j, ltb_j, leb_j, inb_j, ix_j, ix_n, nz_b, nz_0, nz_1, eqb_b, bnot, vI_ne, vI_eq, gIL, gLI, gIR, gRI, gLR, gRL, Int.reduceLT, Int.reduceLE, Int.reduceEq, Int.reduceAdd, Int.reduceSub, Int.reduceMul, Int.reduceNeg, Int.reduceToNat, Nat.reduceEqDiff, reduceIte, if_neg, if_pos, gI_ne, fR_s, z2]
      · have z : gI m 65 f ≠ 0 := fun z => by
          obtain ⟨k, k1, k2⟩ := fb_ct_pos.mp (Nat.pos_of_ne_zero h)
          have hk := wC_iff.mp k2
          have hs := (hM.2.2.2.2.2.2 k (by omega)).2.2.2
          have h9 : bt (gI m 65 f) (vI m 125 k).toNat = true := by
            rw [hb]
            exact pd_t ⟨k, by omega, hk.1, by omega⟩
          rw [z, b_0] at h9
          cases h9
        have z2 : eqb (gI m 65 f) (Zi 0) = false := by rw [eqb_d]; exact decide_eq_false z
        rw [if_neg h]
        simp (disch := omega) only [fX11_waits_0, fX11_waits_16, fX4_laidOfFamily_d, fX4_laidOfFamily_0, qbI_s, qbL_s, qbV_s, qbR_s, qbR_n, qbN_s, qbN_n, qbIX_s, qbIX_n, qbVX_s, qbVX_n, cond_true, cond_false, cond_dec, jadd, jsub, jmul, jneg, li_0, li_1, li_2, li_3, li_4, li_5, li_6, li_7, li_8, li_9, li_10, li_14, li_15, li_16, li_19, li_20, li_24, li_30, li_31, li_32, li_39, li_40, li_48, li_57, li_59, li_60, li_63, li_65, li_80, li_81, li_90, li_97, li_99, li_100, li_122, li_126, li_127, li_150, li_160, li_200, li_225, li_255, li_400, li_799, li_800, li_999, li_2400, li_3239, li_3240, li_1048575, li_1431655765, li_858993459, li_252645135, eqb_j, ltb_j, leb_j, inb_j, ix_j, ix_n, nz_b, nz_0, nz_1, eqb_b, bnot, vI_ne, vI_eq, gIL, gLI, gIR, gRI, gLR, gRL, Int.reduceLT, Int.reduceLE, Int.reduceEq, Int.reduceAdd, Int.reduceSub, Int.reduceMul, Int.reduceNeg, Int.reduceToNat, Nat.reduceEqDiff, reduceIte, if_neg, if_pos, gI_ne, fR_s, z2, g]
    · rw [fX13_waits_d]
      simp (disch := omega) only [fX13_waits_0, fX13_waits_8, qbI_s, qbL_s, qbV_s, qbR_s, qbR_n, qbN_s, qbN_n, qbIX_s, qbIX_n, qbVX_s, qbVX_n, cond_true, cond_false, cond_dec, jadd, jsub, jmul, jneg, li_0, li_1, li_2, li_3, li_4, li_5, li_6, li_7, li_8, li_9, li_10, li_14, li_15, li_16, li_19, li_20, li_24, li_30, li_31, li_32, li_39, li_40, li_48, li_57, li_59, li_60, li_63, li_65, li_80, li_81, li_90, li_97, li_99, li_100, li_122, li_126, li_127, li_150, li_160, li_200, li_225, li_255, li_400, li_799, li_800, li_999, li_2400, li_3239, li_3240, li_1048575, li_1431655765, li_858993459, li_252645135, eqb_j, ltb_j, leb_j, inb_j, ix_j, ix_n, nz_b, nz_0, nz_1, eqb_b, bnot, vI_ne, vI_eq, gIL, gLI, gIR, gRI, gLR, gRL, Int.reduceLT, Int.reduceLE, Int.reduceEq, Int.reduceAdd, Int.reduceSub, Int.reduceMul, Int.reduceNeg, Int.reduceToNat, Nat.reduceEqDiff, reduceIte, if_neg, if_pos, gI_ne, fM_s, waitsOf_s m hM hCl]
  · refine QOp.same (x := Zi (-2)) hR ?_ ?_
    · rw [fX11_waits_d]
      simp (disch := omega) only [fX11_waits_0, fX11_waits_16, qbI_s, qbL_s, qbV_s, qbR_s, qbR_n, qbN_s, qbN_n, qbIX_s, qbIX_n, qbVX_s, qbVX_n, cond_true, cond_false, cond_dec, jadd, jsub, jmul, jneg, li_0, li_1, li_2, li_3, li_4, li_5, li_6, li_7, li_8, li_9, li_10, li_14, li_15, li_16, li_19, li_20, li_24, li_30, li_31, li_32, li_39, li_40, li_48, li_57, li_59, li_60, li_63, li_65, li_80, li_81, li_90, li_97, li_99, li_100, li_122, li_126, li_127, li_150, li_160, li_200, li_225, li_255, li_400, li_799, li_800, li_999, li_2400, li_3239, li_3240, li_1048575, li_1431655765, li_858993459, li_252645135, eqb_j, ltb_j, leb_j, inb_j, ix_j, ix_n, nz_b, nz_0, nz_1, eqb_b, bnot, vI_ne, vI_eq, gIL, gLI, gIR, gRI, gLR, gRL, Int.reduceLT, Int.reduceLE, Int.reduceEq, Int.reduceAdd, Int.reduceSub, Int.reduceMul, Int.reduceNeg, Int.reduceToNat, Nat.reduceEqDiff, reduceIte, if_neg, if_pos, gI_ne, fR_s]
    · rw [fX13_waits_d]
      simp (disch := omega) only [fX13_waits_0, fX13_waits_8, qbI_s, qbL_s, qbV_s, qbR_s, qbR_n, qbN_s, qbN_n, qbIX_s, qbIX_n, qbVX_s, qbVX_n, cond_true, cond_false, cond_dec, jadd, jsub, jmul, jneg, li_0, li_1, li_2, li_3, li_4, li_5, li_6, li_7, li_8, li_9, li_10, li_14, li_15, li_16, li_19, li_20, li_24, li_30, li_31, li_32, li_39, li_40, li_48, li_57, li_59, li_60, li_63, li_65, li_80, li_81, li_90, li_97, li_99, li_100, li_122, li_126, li_127, li_150, li_160, li_200, li_225, li_255, li_400, li_799, li_800, li_999, li_2400, li_3239, li_3240, li_1048575, li_1431655765, li_858993459, li_252645135, eqb_j, ltb_j, leb_j, inb_j, ix_j, ix_n, nz_b, nz_0, nz_1, eqb_b, bnot, vI_ne, vI_eq, gIL, gLI, gIR, gRI, gLR, gRL, Int.reduceLT, Int.reduceLE, Int.reduceEq, Int.reduceAdd, Int.reduceSub, Int.reduceMul, Int.reduceNeg, Int.reduceToNat, Nat.reduceEqDiff, reduceIte, if_neg, if_pos, gI_ne, fM_s]
