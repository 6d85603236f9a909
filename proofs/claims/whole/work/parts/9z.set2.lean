/-! settle: every move and every swap, and the best of them; the class -/
noncomputable def stC (d' : Dt) (o t x : Int) (b : Cs) : Cs := if b.1 < wD d' then (wD d', d', o, t, x) else b
noncomputable def mvS (d : Dt) (a : Nat) : Nat → Nat → Cs → Cs
  | 0, _, b => b
  | r + 1, s, b => mvS d a r (s + 1) (if (s : Int) ≠ d 125 a ∧ mbV (upS d a (-1)) a s = true then stC (upS d a s) a (-1) s b else b)
noncomputable def mvA (d : Dt) (L : Bool) : Nat → Nat → Cs → Cs
  | 0, _, b => b
  | r + 1, i, b => mvA d L r (i + 1) (if isLd d i = L then mvS d i 20 0 b else b)
noncomputable def swI (d : Dt) (a : Nat) : Nat → Nat → Cs → Cs
  | 0, _, b => b
  | r + 1, i, b => swI d a r (i + 1) (if pd (swB d a i) = true then stC (swD d a i) a i (-1) b else b)
noncomputable def swO (d : Dt) (n : Nat) : Nat → Nat → Cs → Cs
  | 0, _, b => b
  | r + 1, a, b => swO d n r (a + 1) (swI d a (n - (a + 1)) (a + 1) b)
noncomputable def passC (d : Dt) : Cs := swO d (d 98 32).toNat (d 98 32).toNat 0 (mvA d true (d 98 32).toNat 0 (mvA d false (d 98 32).toNat 0 (wD d, d, -1, -1, -1)))
def cMv (d : Dt) (b : Cs) : Prop := ∃ a s : Nat, (a : Int) < d 98 32 ∧ s < 20 ∧ mbV (upS d a (-1)) a s = true ∧ b = (wD (upS d a s), upS d a s, (a : Int), -1, (s : Int))
def cSw (d : Dt) (b : Cs) : Prop := ∃ a i : Nat, (a : Int) < d 98 32 ∧ (i : Int) < d 98 32 ∧ a ≠ i ∧ swB d a i ∧ b = (wD (swD d a i), swD d a i, (a : Int), (i : Int), -1)
def cOK (d : Dt) (b : Cs) : Prop := b = (wD d, d, -1, -1, -1) ∨ (wD d < b.1 ∧ (cMv d b ∨ cSw d b))
theorem cOK.ge {d : Dt} {b : Cs} (h : cOK d b) : wD d ≤ b.1 := by
  rcases h with h | h
  · rw [h]; exact Int.le_refl _
  · omega
theorem stC_mv {d : Dt} {b : Cs} (h : cOK d b) (a s : Nat) (ha : (a : Int) < d 98 32) (hs : s < 20) (hm : mbV (upS d a (-1)) a s = true) : cOK d (stC (upS d a s) a (-1) s b) := by
  have hg := h.ge
  unfold stC
  by_cases c : b.1 < wD (upS d a s)
  · rw [if_pos c]
    exact Or.inr ⟨by show wD d < wD (upS d a s); omega, Or.inl ⟨a, s, ha, hs, hm, rfl⟩⟩
  · rw [if_neg c]
    exact h
theorem stC_sw {d : Dt} {b : Cs} (h : cOK d b) (a i : Nat) (ha : (a : Int) < d 98 32) (hi : (i : Int) < d 98 32) (hai : a ≠ i) (hm : swB d a i) : cOK d (stC (swD d a i) a i (-1) b) := by
  have hg := h.ge
  unfold stC
  by_cases c : b.1 < wD (swD d a i)
  · rw [if_pos c]
    exact Or.inr ⟨by show wD d < wD (swD d a i); omega, Or.inr ⟨a, i, ha, hi, hai, hm, rfl⟩⟩
  · rw [if_neg c]
    exact h
theorem mvS_ok {d : Dt} (a : Nat) (ha : (a : Int) < d 98 32) : ∀ r s b, s + r = 20 → cOK d b → cOK d (mvS d a r s b)
  | 0, _, b, _, h => h
  | r + 1, s, b, hs, h => by
    rw [mvS]
    refine mvS_ok a ha r (s + 1) _ (by omega) ?_
    by_cases c : (s : Int) ≠ d 125 a ∧ mbV (upS d a (-1)) a s = true
    · rw [if_pos c]; exact stC_mv h a s ha (by omega) c.2
    · rw [if_neg c]; exact h
theorem mvA_ok {d : Dt} (L : Bool) : ∀ r i b, ((i + r : Nat) : Int) ≤ d 98 32 → cOK d b → cOK d (mvA d L r i b)
  | 0, _, b, _, h => h
  | r + 1, i, b, hi, h => by
    rw [mvA]
    refine mvA_ok L r (i + 1) _ (by omega) ?_
    by_cases c : isLd d i = L
    · rw [if_pos c]; exact mvS_ok i (by omega) 20 0 b (by omega) h
    · rw [if_neg c]; exact h
theorem swI_ok {d : Dt} (a : Nat) (ha : (a : Int) < d 98 32) : ∀ r i b, a < i → ((i + r : Nat) : Int) ≤ d 98 32 → cOK d b → cOK d (swI d a r i b)
  | 0, _, b, _, _, h => h
  | r + 1, i, b, hai, hi, h => by
    rw [swI]
    refine swI_ok a ha r (i + 1) _ (by omega) (by omega) ?_
    by_cases c : pd (swB d a i) = true
    · rw [if_pos c]; exact stC_sw h a i ha (by omega) (by omega) (pd_iff.mp c)
    · rw [if_neg c]; exact h
theorem swO_ok {d : Dt} (n : Nat) (hn : (n : Int) = d 98 32) : ∀ r a b, a + r = n → cOK d b → cOK d (swO d n r a b)
  | 0, _, b, _, h => h
  | r + 1, a, b, hi, h => by
    rw [swO]
    exact swO_ok n hn r (a + 1) _ (by omega) (swI_ok a (by omega) (n - (a + 1)) (a + 1) b (by omega) (by omega) h)
theorem passC_ok {d : Dt} (hD : DOk d) : cOK d (passC d) := by
  have h0 := hD.2.2.2.2.1
  exact swO_ok _ (by omega) _ 0 _ (by omega) (mvA_ok true _ 0 _ (by omega) (mvA_ok false _ 0 _ (by omega) (Or.inl rfl)))
theorem swD_q (d : Dt) (a i : Nat) {c k : Nat} (hc : ¬ c = 125) : swD d a i c k = d c k := by unfold swD; rw [upS_ne _ _ _ hc, upS_ne _ _ _ hc]
theorem cOK.dt {m : qM} {d : Dt} (hD : DOk d) (hCl : CClash m d) {b : Cs} (h : cOK d b) : DOk b.2.1 ∧ CClash m b.2.1 ∧ b.1 = wD b.2.1 := by
  rcases h with h | ⟨h0, h | h⟩
  · rw [h]
    exact ⟨hD, hCl, rfl⟩
  · obtain ⟨a, s, h1, h2, h3, h4⟩ := h
    rw [h4]
    refine ⟨hD.up a s (by omega), ?_, rfl⟩
    have := CClash.up (m := m) (m' := m) (hCl.dn (m' := m) a) a s (by rw [upS_ne _ _ _ (by omega)]; exact h1) (NC.of_mb h3)
    rw [upS_up] at this
    exact this
  · obtain ⟨a, i, h1, h2, h3, h5, h4⟩ := h
    have sa := (hD.2.2.2.2.2.2 a h1).2.2.2
    have si := (hD.2.2.2.2.2.2 i h2).2.2.2
    rw [h4]
    refine ⟨(hD.up a (d 125 i) (by omega)).up i (d 125 a) (by omega), ?_, rfl⟩
    obtain ⟨b1, b2, b3, b4, b5⟩ := h5
    obtain ⟨s1, hs1⟩ : ∃ s1 : Nat, d 125 a = s1 := ⟨(d 125 a).toNat, by omega⟩
    obtain ⟨s2, hs2⟩ : ∃ s2 : Nat, d 125 i = s2 := ⟨(d 125 i).toNat, by omega⟩
    have e4 := (sw_worth hD hCl h1 h2 h3 hs1 hs2 ⟨b1, b2, b3, b4, b5⟩).1
    rw [hs2, Int.toNat_natCast] at b4
    rw [hs2, hs1, Int.toNat_natCast] at b5
    have q2 : ∀ c k, ¬ c = 125 → sw2 d a i c k = d c k := fun c k hc => by unfold sw2; rw [upS_ne _ _ _ hc, upS_ne _ _ _ hc]
    have C2 : CClash m (sw2 d a i) := (hCl.dn (m' := m) a).dn i
    have C3 := C2.up (m' := m) a s2 (by rw [q2 _ _ (by omega)]; exact h1) (NC.of_mb b4)
    have C4 := C3.up (m' := m) i s1 (by rw [upS_ne _ _ _ (by omega), q2 _ _ (by omega)]; exact h2) (NC.of_mb b5)
    rw [e4] at C4
    exact C4
theorem cOK.r {m : qM} {d : Dt} (hD : DOk d) (hCl : CClash m d) {b : Cs} (h : cOK d b) : wD d ≤ b.1 ∧ 0 ≤ b.1 ∧ b.1 ≤ 3000000000 := by
  have h1 := h.dt hD hCl
  have h2 := wD_r _ h1.1
  have h3 := h.ge
  omega
/-! the class -/
def SF (m m' : qM) : Prop := (∀ c k, ¬ (c = 58 ∧ 13 ≤ k ∧ k ≤ 16 ∨ c = 62 ∨ 64 ≤ c ∧ c ≤ 67 ∨ c = 68 ∧ 10 ≤ k ∧ k ≤ 12) → gI m' c k = gI m c k) ∧ gR m' = gR m
theorem SF.rf (m : qM) : SF m m := ⟨fun _ _ _ => rfl, rfl⟩
theorem SF.tr {a b c : qM} (h : SF a b) (g : SF b c) : SF a c := ⟨fun c' k hc => (g.1 c' k hc).trans (h.1 c' k hc), g.2.trans h.2⟩
theorem SF.of {a b : qM} (h : Fr plP a b) : SF a b := ⟨fun c k hc => h.1 c k (by unfold plP; omega), h.2.2⟩
def CSt (d : Dt) (b : Cs) (m : qM) : Prop := CAll m d ∧ gL m 68 13 = Zl (b.1 - wD d) ∧ (wD d < b.1 → vI m 68 10 = b.2.2.1 ∧ vI m 68 11 = b.2.2.2.1 ∧ (b.2.2.2.1 = -1 → vI m 68 12 = b.2.2.2.2))
theorem CSt.fr {d : Dt} {b : Cs} {m m' : qM} (h : CSt d b m) (hC : CAll m' d) (f : Fr plP m m') : CSt d b m' := by
  obtain ⟨h1, h2, h3⟩ := h
  have q : ∀ c k, ¬ (c = 58 ∧ 13 ≤ k ∧ k ≤ 16 ∨ c = 62 ∨ 64 ≤ c ∧ c ≤ 67) → vI m' c k = vI m c k := fun c k hc => vI_of (f.1 c k hc)
  exact ⟨hC, by rw [f.2.1]; exact h2, fun h => by rw [q 68 10 (by omega), q 68 11 (by omega), q 68 12 (by omega)]; exact h3 h⟩
theorem keepC_s (m : qM) (d d' : Dt) (o t x : Int) (b : Cs) (ho : -1 ≤ o ∧ o ≤ 40) (ht : -1 ≤ t ∧ t ≤ 40) (hx : -1 ≤ x ∧ x ≤ 40) (h : CSt d b m) (hb : b.1 < wD d') : wp (fX0_keepChange (Zi o) (Zi t) (Zi x) (Zl (wD d' - wD d)) m) (fun _ m' => CSt d (stC d' o t x b) m' ∧ SF m m') := by
  obtain ⟨h1, h2, h3⟩ := h
  refine wp_e (x := ()) (m := sL (sI (sI (sI m 68 10 (Zi o)) 68 11 (Zi t)) 68 12 (Zi x)) 68 13 (Zl (wD d' - wD d))) ?_ ⟨⟨h1.congr (fun c k hc => by rw [gI_sL, gI_ne (by omega), gI_ne (by omega), gI_ne (by omega)]) (fun _ _ _ => rfl), ?_, fun _ => ?_⟩, fun c k hc => ?_, ?_⟩
  · rw [fX0_keepChange_d]
    simp only [fX0_keepChange_0]
  · rw [gL_sL, if_pos ⟨rfl, rfl⟩, stC, if_pos hb]
  · rw [stC, if_pos hb]
    simp (disch := omega) only [qbI_s, qbL_s, qbV_s, qbR_s, qbR_n, qbN_s, qbN_n, qbIX_s, qbIX_n, qbVX_s, qbVX_n, cond_true, cond_false, cond_dec, jadd, jsub, jmul, jneg, li_0, li_1, li_2, li_3, li_4, li_5, li_6, li_7, li_8, li_9, li_10, li_14, li_15, li_16, li_19, li_20, li_24, li_30, li_31, li_32, li_39, li_40, li_48, li_57, li_59, li_60, li_63, li_65, li_80, li_81, li_90, li_97, li_99, li_100, li_122, li_126, li_127, li_150, li_160, li_200, li_225, li_255, li_400, li_799, li_800, li_999, li_2400, li_3239, li_3240, li_1048575, li_1431655765, li_858993459, li_252645135, eqb_j, ltb_j, leb_j, inb_j, ix_j, ix_n, nz_b, nz_0, nz_1, eqb_b, bnot, vI_ne, vI_eq, gIL, gLI, gIR, gRI, gLR, gRL, Int.reduceLT, Int.reduceLE, Int.reduceEq, Int.reduceAdd, Int.reduceSub, Int.reduceMul, Int.reduceNeg, Int.reduceToNat, Nat.reduceEqDiff, reduceIte, if_neg, if_pos, gI_ne]
    exact ⟨trivial, trivial, fun _ => trivial⟩
  · rw [gI_sL, gI_sI, if_neg (by omega), gI_sI, if_neg (by omega), gI_sI, if_neg (by omega)]
  · rw [gR_sL, gR_sI, gR_sI, gR_sI]
theorem openNot_s (m : qM) (d : Dt) (hC : CAll m d) (a : Nat) (ha : (a : Int) < d 98 32) : wp (fX0_openIfNotLaid (Zi a) m) (fun x m' => (∀ s, s < 20 → bt x s = mbV (upS d a (-1)) a s) ∧ CAll m' d ∧ Fr plP m m') := by
  have hD := DOk.of hC
  have hCl := hC.2.2.2.2.2.2.2.1
  have ld := laidD m d hC.2.2.2.2.2.1 a ha
  have sr := (hD.2.2.2.2.2.2 a ha).2.2.2
  rw [fX0_openIfNotLaid_d]
  by_cases hl : d 125 a = -1
  · rw [show isLd d a = false from decide_eq_false (fun z => z hl)] at ld
    obtain ⟨x, o1, o2, -⟩ := open_s m d hC a ha hl
    refine wp_e (x := x) (m := m) ?_ ⟨fun s hs => ?_, hC, Fr.rf m⟩
    · simp (disch := omega) only [fX0_openIfNotLaid_0, qbI_s, qbL_s, qbV_s, qbR_s, qbR_n, qbN_s, qbN_n, qbIX_s, qbIX_n, qbVX_s, qbVX_n, cond_true, cond_false, cond_dec, jadd, jsub, jmul, jneg, li_0, li_1, li_2, li_3, li_4, li_5, li_6, li_7, li_8, li_9, li_10, li_14, li_15, li_16, li_19, li_20, li_24, li_30, li_31, li_32, li_39, li_40, li_48, li_57, li_59, li_60, li_63, li_65, li_80, li_81, li_90, li_97, li_99, li_100, li_122, li_126, li_127, li_150, li_160, li_200, li_225, li_255, li_400, li_799, li_800, li_999, li_2400, li_3239, li_3240, li_1048575, li_1431655765, li_858993459, li_252645135, eqb_j, ltb_j, leb_j, inb_j, ix_j, ix_n, nz_b, nz_0, nz_1, eqb_b, bnot, vI_ne, vI_eq, gIL, gLI, gIR, gRI, gLR, gRL, Int.reduceLT, Int.reduceLE, Int.reduceEq, Int.reduceAdd, Int.reduceSub, Int.reduceMul, Int.reduceNeg, Int.reduceToNat, Nat.reduceEqDiff, reduceIte, if_neg, if_pos, gI_ne, ld, show bI false = 0 from rfl, o1]
    · rw [← hl, upS_self]
      exact o2 s hs
  · rw [show isLd d a = true from decide_eq_true hl] at ld
    obtain ⟨s0, hs0⟩ : ∃ s0 : Nat, d 125 a = s0 := ⟨(d 125 a).toNat, by omega⟩
    obtain ⟨y, m1, t1, t2, t3, t4⟩ := take_s m d hC a s0 ha hs0 (by omega)
    have hd1 : (a : Int) < upS d a (-1) 98 32 := by rw [upS_ne _ _ _ (by omega)]; exact ha
    have hu1 : upS d a (-1) 125 a = -1 := by rw [upS_eq, if_pos rfl]
    obtain ⟨x, o1, o2, -⟩ := open_s m1 _ t3 a hd1 hu1
    obtain ⟨k1, k2, -⟩ := tk_worth hD hCl ha hs0
    obtain ⟨z, m2, p1, p2, p3⟩ := put_s m1 _ t3 a s0 hd1 hu1 (by omega) k1
    rw [k2] at p2
    rw [t2] at t1
    refine wp_e (x := x) (m := m2) ?_ ⟨o2, p2, t4.tr p3⟩
    simp (disch := omega) only [fX0_openIfNotLaid_0, qbI_s, qbL_s, qbV_s, qbR_s, qbR_n, qbN_s, qbN_n, qbIX_s, qbIX_n, qbVX_s, qbVX_n, cond_true, cond_false, cond_dec, jadd, jsub, jmul, jneg, li_0, li_1, li_2, li_3, li_4, li_5, li_6, li_7, li_8, li_9, li_10, li_14, li_15, li_16, li_19, li_20, li_24, li_30, li_31, li_32, li_39, li_40, li_48, li_57, li_59, li_60, li_63, li_65, li_80, li_81, li_90, li_97, li_99, li_100, li_122, li_126, li_127, li_150, li_160, li_200, li_225, li_255, li_400, li_799, li_800, li_999, li_2400, li_3239, li_3240, li_1048575, li_1431655765, li_858993459, li_252645135, eqb_j, ltb_j, leb_j, inb_j, ix_j, ix_n, nz_b, nz_0, nz_1, eqb_b, bnot, vI_ne, vI_eq, gIL, gLI, gIR, gRI, gLR, gRL, Int.reduceLT, Int.reduceLE, Int.reduceEq, Int.reduceAdd, Int.reduceSub, Int.reduceMul, Int.reduceNeg, Int.reduceToNat, Nat.reduceEqDiff, reduceIte, if_neg, if_pos, gI_ne, ld, show bI true = 1 from rfl, t1, o1, p1]
theorem gainA_s (m : qM) (d : Dt) (hC : CAll m d) (a s : Nat) (ha : (a : Int) < d 98 32) (hs : s < 20) (hm : mbV (upS d a (-1)) a s = true) : fX4_gain (Zi a) (Zi s) m = some (Zl (wD (upS d a s) - wD d), m) := by
  have hD := DOk.of hC
  have hCl := hC.2.2.2.2.2.2.2.1
  have sr := (hD.2.2.2.2.2.2 a ha).2.2.2
  have w1 := mv_worth hD hCl ha hm
  by_cases hl : d 125 a = -1
  · have e : upS d a (-1) = d := by rw [← hl, upS_self]
    rw [e] at w1
    rw [gainU_s m d hC a s ha hl hs, w1]
    congr 3
    omega
  · obtain ⟨s0, hs0⟩ : ∃ s0 : Nat, d 125 a = s0 := ⟨(d 125 a).toNat, by omega⟩
    have g := gnL_eq hD hCl ha hs0 s
    have w2 := (tk_worth hD hCl ha hs0).2.2.1
    rw [gainL_s m d hC a s s0 ha hs0 hs, w1]
    congr 3
    omega
theorem seekPuts_s (L : Bool) (m : qM) (d : Dt) (b : Cs) (hb : cOK d b) (h : CSt d b m) : wp (fX0_seekPuts (Zi (bI L)) m) (fun _ m' => CSt d (mvA d L (d 98 32).toNat 0 b) m' ∧ SF m m') := by
  have hD := DOk.of h.1
  have hCl := h.1.2.2.2.2.2.2.2.1
  have n1 := hD.2.2.2.2.1
  have n2 := hD.2.2.2.2.2.1
  have hr0 := wD_r d hD
  have key19 : ∀ (k47 : Int32 → Int32 → qM → Option (Unit × qM)) (Q : Unit → qM → Prop) (a : Nat) (x : Int32), (a : Int) < d 98 32 → (∀ s, s < 20 → bt x s = mbV (upS d a (-1)) a s) → ∀ (r s g : Nat) (w : qM) (b : Cs), s + r = 20 → r < g → CSt d b w → cOK d b → SF m w → (∀ w', CSt d (mvS d a r s b) w' → SF m w' → wp (k47 (Zi (bI L)) (Zi a) w') Q) → wp (fX0_seekPuts_19 k47 g (Zi (bI L)) (Zi a) x (Zi s) w) Q := by
    intro k47 Q a x ha hx r
    induction r with
    | zero =>
      intro s g w b hs hg hw hb hF hk
      obtain ⟨g, rfl⟩ : ∃ g', g = g' + 1 := ⟨g - 1, by omega⟩
      simp (disch := omega) only [fX0_seekPuts_19, qbI_s, qbL_s, qbV_s, qbR_s, qbR_n, qbN_s, qbN_n, qbIX_s, qbIX_n, qbVX_s, qbVX_n, cond_true, cond_false, cond_dec, jadd, jsub, jmul, jneg, li_0, li_1, li_2, li_3, li_4, li_5, li_6, li_7, li_8, li_9, li_10, li_14, li_15, li_16, li_19, li_20, li_24, li_30, li_31, li_32, li_39, li_40, li_48, li_57, li_59, li_60, li_63, li_65, li_80, li_81, li_90, li_97, li_99, li_100, li_122, li_126, li_127, li_150, li_160, li_200, li_225, li_255, li_400, li_799, li_800, li_999, li_2400, li_3239, li_3240, li_1048575, li_1431655765, li_858993459, li_252645135, eqb_j, ltb_j, leb_j, inb_j, ix_j, ix_n, nz_b, nz_0, nz_1, eqb_b, bnot, vI_ne, vI_eq, gIL, gLI, gIR, gRI, gLR, gRL, Int.reduceLT, Int.reduceLE, Int.reduceEq, Int.reduceAdd, Int.reduceSub, Int.reduceMul, Int.reduceNeg, Int.reduceToNat, Nat.reduceEqDiff, reduceIte, if_neg, if_pos, gI_ne]
      exact hk w hw hF
    | succ r ih =>
      intro s g w b hs hg hw hb hF hk
      obtain ⟨g, rfl⟩ : ∃ g', g = g' + 1 := ⟨g - 1, by omega⟩
      have hh := has_s x s (by omega) w
      rw [hx s (by omega)] at hh
      rw [mvS] at hk
      have br := hb.r hD hCl
      cases hm : mbV (upS d a (-1)) a s
      · rw [hm] at hh hk
        rw [if_neg (fun z => by cases z.2)] at hk
        have nx := ih (s + 1) g w b (by omega) (by omega) hw hb hF hk
        simp (disch := omega) only [fX0_seekPuts_19, fX0_seekPuts_45, qbI_s, qbL_s, qbV_s, qbR_s, qbR_n, qbN_s, qbN_n, qbIX_s, qbIX_n, qbVX_s, qbVX_n, cond_true, cond_false, cond_dec, jadd, jsub, jmul, jneg, li_0, li_1, li_2, li_3, li_4, li_5, li_6, li_7, li_8, li_9, li_10, li_14, li_15, li_16, li_19, li_20, li_24, li_30, li_31, li_32, li_39, li_40, li_48, li_57, li_59, li_60, li_63, li_65, li_80, li_81, li_90, li_97, li_99, li_100, li_122, li_126, li_127, li_150, li_160, li_200, li_225, li_255, li_400, li_799, li_800, li_999, li_2400, li_3239, li_3240, li_1048575, li_1431655765, li_858993459, li_252645135, eqb_j, ltb_j, leb_j, inb_j, ix_j, ix_n, nz_b, nz_0, nz_1, eqb_b, bnot, vI_ne, vI_eq, gIL, gLI, gIR, gRI, gLR, gRL, Int.reduceLT, Int.reduceLE, Int.reduceEq, Int.reduceAdd, Int.reduceSub, Int.reduceMul, Int.reduceNeg, Int.reduceToNat, Nat.reduceEqDiff, reduceIte, if_neg, if_pos, gI_ne, hh, show bI false = 0 from rfl]
        exact nx
      · rw [hm] at hh hk
        have gn := gainA_s w d hw.1 a s ha (by omega) hm
        have hD' := wD_r _ (hD.up a s (by omega))
        by_cases c : wD (upS d a s) - wD d ≤ b.1 - wD d
        · have e : (if (s : Int) ≠ d 125 a ∧ true = true then stC (upS d a s) a (-1) s b else b) = b := by
            by_cases z : (s : Int) ≠ d 125 a ∧ true = true
            · rw [if_pos z, stC, if_neg (by omega)]
            · rw [if_neg z]
          rw [e] at hk
          have nx := ih (s + 1) g w b (by omega) (by omega) hw hb hF hk
          simp (disch := omega) only [fX0_seekPuts_19, fX0_seekPuts_45, qbI_s, qbL_s, qbV_s, qbR_s, qbR_n, qbN_s, qbN_n, qbIX_s, qbIX_n, qbVX_s, qbVX_n, cond_true, cond_false, cond_dec, jadd, jsub, jmul, jneg, li_0, li_1, li_2, li_3, li_4, li_5, li_6, li_7, li_8, li_9, li_10, li_14, li_15, li_16, li_19, li_20, li_24, li_30, li_31, li_32, li_39, li_40, li_48, li_57, li_59, li_60, li_63, li_65, li_80, li_81, li_90, li_97, li_99, li_100, li_122, li_126, li_127, li_150, li_160, li_200, li_225, li_255, li_400, li_799, li_800, li_999, li_2400, li_3239, li_3240, li_1048575, li_1431655765, li_858993459, li_252645135, eqb_j, ltb_j, leb_j, inb_j, ix_j, ix_n, nz_b, nz_0, nz_1, eqb_b, bnot, vI_ne, vI_eq, gIL, gLI, gIR, gRI, gLR, gRL, Int.reduceLT, Int.reduceLE, Int.reduceEq, Int.reduceAdd, Int.reduceSub, Int.reduceMul, Int.reduceNeg, Int.reduceToNat, Nat.reduceEqDiff, reduceIte, if_neg, if_pos, gI_ne, ll_0, ll_1, ll_3, ll_5, ll_9, ll_10, ll_13, ll_14, ll_19, ll_20, ll_32, ll_60, ll_126, ll_799, ll_1024, ll_1048576, ll_67108864, Zladd, Zlsub, Zlmul, Zlneg, toL, lg_lt, lg_gt, lg_le, hh, show bI true = 1 from rfl, gn, hw.2.1]
          exact nx
        · have hne : (s : Int) ≠ d 125 a := fun z => by
            rw [z, upS_self] at c
            omega
          rw [if_pos ⟨hne, rfl⟩] at hk
          obtain ⟨y, w2, e1, e2, e3⟩ := keepC_s w d (upS d a s) a (-1) s b (by omega) (by omega) (by omega) hw (by omega)
          have nx := ih (s + 1) g w2 _ (by omega) (by omega) e2 (stC_mv hb a s ha (by omega) hm) (hF.tr e3) hk
          simp (disch := omega) only [fX0_seekPuts_19, fX0_seekPuts_45, qbI_s, qbL_s, qbV_s, qbR_s, qbR_n, qbN_s, qbN_n, qbIX_s, qbIX_n, qbVX_s, qbVX_n, cond_true, cond_false, cond_dec, jadd, jsub, jmul, jneg, li_0, li_1, li_2, li_3, li_4, li_5, li_6, li_7, li_8, li_9, li_10, li_14, li_15, li_16, li_19, li_20, li_24, li_30, li_31, li_32, li_39, li_40, li_48, li_57, li_59, li_60, li_63, li_65, li_80, li_81, li_90, li_97, li_99, li_100, li_122, li_126, li_127, li_150, li_160, li_200, li_225, li_255, li_400, li_799, li_800, li_999, li_2400, li_3239, li_3240, li_1048575, li_1431655765, li_858993459, li_252645135, eqb_j, ltb_j, leb_j, inb_j, ix_j, ix_n, nz_b, nz_0, nz_1, eqb_b, bnot, vI_ne, vI_eq, gIL, gLI, gIR, gRI, gLR, gRL, Int.reduceLT, Int.reduceLE, Int.reduceEq, Int.reduceAdd, Int.reduceSub, Int.reduceMul, Int.reduceNeg, Int.reduceToNat, Nat.reduceEqDiff, reduceIte, if_neg, if_pos, gI_ne, ll_0, ll_1, ll_3, ll_5, ll_9, ll_10, ll_13, ll_14, ll_19, ll_20, ll_32, ll_60, ll_126, ll_799, ll_1024, ll_1048576, ll_67108864, Zladd, Zlsub, Zlmul, Zlneg, toL, lg_lt, lg_gt, lg_le, hh, show bI true = 1 from rfl, gn, hw.2.1, show (-1 : Int32) = Zi (-1) from rfl, e1]
          exact nx
  have key2 : ∀ (r i g : Nat) (w : qM) (b : Cs), i + r = (d 98 32).toNat → r < g → CSt d b w → cOK d b → SF m w → wp (fX0_seekPuts_2 g (Zi (bI L)) (Zi i) w) (fun _ m' => CSt d (mvA d L r i b) m' ∧ SF m m') := by
    intro r
    induction r with
    | zero =>
      intro i g w b hi hg hw hb hF
      obtain ⟨g, rfl⟩ : ∃ g', g = g' + 1 := ⟨g - 1, by omega⟩
      have h11 := hw.1.2.2.2.2.2.1.1
      refine wp_e (x := ()) (m := w) ?_ ⟨hw, hF⟩
      simp (disch := omega) only [fX0_seekPuts_2, fX4_asks_d, fX4_asks_0, qbI_s, qbL_s, qbV_s, qbR_s, qbR_n, qbN_s, qbN_n, qbIX_s, qbIX_n, qbVX_s, qbVX_n, cond_true, cond_false, cond_dec, jadd, jsub, jmul, jneg, li_0, li_1, li_2, li_3, li_4, li_5, li_6, li_7, li_8, li_9, li_10, li_14, li_15, li_16, li_19, li_20, li_24, li_30, li_31, li_32, li_39, li_40, li_48, li_57, li_59, li_60, li_63, li_65, li_80, li_81, li_90, li_97, li_99, li_100, li_122, li_126, li_127, li_150, li_160, li_200, li_225, li_255, li_400, li_799, li_800, li_999, li_2400, li_3239, li_3240, li_1048575, li_1431655765, li_858993459, li_252645135, eqb_j, ltb_j, leb_j, inb_j, ix_j, ix_n, nz_b, nz_0, nz_1, eqb_b, bnot, vI_ne, vI_eq, gIL, gLI, gIR, gRI, gLR, gRL, Int.reduceLT, Int.reduceLE, Int.reduceEq, Int.reduceAdd, Int.reduceSub, Int.reduceMul, Int.reduceNeg, Int.reduceToNat, Nat.reduceEqDiff, reduceIte, if_neg, if_pos, gI_ne, gIv 58, h11]
    | succ r ih =>
      intro i g w b hi hg hw hb hF
      obtain ⟨g, rfl⟩ : ∃ g', g = g' + 1 := ⟨g - 1, by omega⟩
      have h11 := hw.1.2.2.2.2.2.1.1
      have ld := laidD w d hw.1.2.2.2.2.2.1 i (by omega)
      rw [mvA]
      by_cases c : isLd d i = L
      · rw [if_pos c]
        obtain ⟨x, w1, o1, o2, o3, o4⟩ := openNot_s w d hw.1 i (by omega)
        have k19 := key19 (fX0_seekPuts_47 (fX0_seekPuts_2 g)) (fun _ m' => CSt d (mvA d L r (i + 1) (mvS d i 20 0 b)) m' ∧ SF m m') i x (by omega) o2 20 0 FU w1 b (by omega) (by rw [FU_d]; omega) (hw.fr o3 o4) hb (hF.tr (SF.of o4)) (fun w' h1 h2 => by
          have := ih (i + 1) g w' _ (by omega) (by omega) h1 (mvS_ok i (by omega) 20 0 b (by omega) hb) h2
          simp (disch := omega) only [fX0_seekPuts_47, qbI_s, qbL_s, qbV_s, qbR_s, qbR_n, qbN_s, qbN_n, qbIX_s, qbIX_n, qbVX_s, qbVX_n, cond_true, cond_false, cond_dec, jadd, jsub, jmul, jneg, li_0, li_1, li_2, li_3, li_4, li_5, li_6, li_7, li_8, li_9, li_10, li_14, li_15, li_16, li_19, li_20, li_24, li_30, li_31, li_32, li_39, li_40, li_48, li_57, li_59, li_60, li_63, li_65, li_80, li_81, li_90, li_97, li_99, li_100, li_122, li_126, li_127, li_150, li_160, li_200, li_225, li_255, li_400, li_799, li_800, li_999, li_2400, li_3239, li_3240, li_1048575, li_1431655765, li_858993459, li_252645135, eqb_j, ltb_j, leb_j, inb_j, ix_j, ix_n, nz_b, nz_0, nz_1, eqb_b, bnot, vI_ne, vI_eq, gIL, gLI, gIR, gRI, gLR, gRL, Int.reduceLT, Int.reduceLE, Int.reduceEq, Int.reduceAdd, Int.reduceSub, Int.reduceMul, Int.reduceNeg, Int.reduceToNat, Nat.reduceEqDiff, reduceIte, if_neg, if_pos, gI_ne]
          exact this)
        have eb : (isLd d i == L) = true := by rw [c]; exact beq_self_eq_true L
        simp (disch := omega) only [fX0_seekPuts_2, fX4_asks_d, fX4_asks_0, qbI_s, qbL_s, qbV_s, qbR_s, qbR_n, qbN_s, qbN_n, qbIX_s, qbIX_n, qbVX_s, qbVX_n, cond_true, cond_false, cond_dec, jadd, jsub, jmul, jneg, li_0, li_1, li_2, li_3, li_4, li_5, li_6, li_7, li_8, li_9, li_10, li_14, li_15, li_16, li_19, li_20, li_24, li_30, li_31, li_32, li_39, li_40, li_48, li_57, li_59, li_60, li_63, li_65, li_80, li_81, li_90, li_97, li_99, li_100, li_122, li_126, li_127, li_150, li_160, li_200, li_225, li_255, li_400, li_799, li_800, li_999, li_2400, li_3239, li_3240, li_1048575, li_1431655765, li_858993459, li_252645135, eqb_j, ltb_j, leb_j, inb_j, ix_j, ix_n, nz_b, nz_0, nz_1, eqb_b, bnot, vI_ne, vI_eq, gIL, gLI, gIR, gRI, gLR, gRL, Int.reduceLT, Int.reduceLE, Int.reduceEq, Int.reduceAdd, Int.reduceSub, Int.reduceMul, Int.reduceNeg, Int.reduceToNat, Nat.reduceEqDiff, reduceIte, if_neg, if_pos, gI_ne, gIv 58, h11, ld, eqb_bb, eb, o1]
        exact k19
      · rw [if_neg c]
        have eb : (isLd d i == L) = false := by
          rw [← Bool.not_eq_true, beq_iff_eq]
          exact c
        have nx := ih (i + 1) g w b (by omega) (by omega) hw hb hF
        simp (disch := omega) only [fX0_seekPuts_2, fX0_seekPuts_47, fX4_asks_d, fX4_asks_0, qbI_s, qbL_s, qbV_s, qbR_s, qbR_n, qbN_s, qbN_n, qbIX_s, qbIX_n, qbVX_s, qbVX_n, cond_true, cond_false, cond_dec, jadd, jsub, jmul, jneg, li_0, li_1, li_2, li_3, li_4, li_5, li_6, li_7, li_8, li_9, li_10, li_14, li_15, li_16, li_19, li_20, li_24, li_30, li_31, li_32, li_39, li_40, li_48, li_57, li_59, li_60, li_63, li_65, li_80, li_81, li_90, li_97, li_99, li_100, li_122, li_126, li_127, li_150, li_160, li_200, li_225, li_255, li_400, li_799, li_800, li_999, li_2400, li_3239, li_3240, li_1048575, li_1431655765, li_858993459, li_252645135, eqb_j, ltb_j, leb_j, inb_j, ix_j, ix_n, nz_b, nz_0, nz_1, eqb_b, bnot, vI_ne, vI_eq, gIL, gLI, gIR, gRI, gLR, gRL, Int.reduceLT, Int.reduceLE, Int.reduceEq, Int.reduceAdd, Int.reduceSub, Int.reduceMul, Int.reduceNeg, Int.reduceToNat, Nat.reduceEqDiff, reduceIte, if_neg, if_pos, gI_ne, gIv 58, h11, ld, eqb_bb, eb]
        exact nx
  rw [fX0_seekPuts_d]
  simp only [fX0_seekPuts_0]
  exact key2 (d 98 32).toNat 0 FU m b (by omega) (by rw [FU_d]; omega) h hb (SF.rf m)
