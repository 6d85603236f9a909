/-! what all that is laid is worth in one number; what a change adds; every way to lay a few -/
abbrev Dt := Nat → Nat → Int
abbrev Bs := Int × Dt
noncomputable def wD (d : Dt) : Int := (vM d : Int) * 67108864 + (vA d : Int) * 1048576 - (vW d : Int) * 1024 + vP d
noncomputable def gapS (p : Nat → Bool) : Nat := fb_ct (gapP p) 32
def addS (p : Nat → Bool) (s : Nat) : Nat → Bool := fun k => p k || decide (k = s)
def muI (d : Dt) (a : Nat) : Int := if d 126 a = 1 then 1 else 0
noncomputable def gnU (d : Dt) (a s : Nat) : Int := muI d a * 67108864 + 1048576 + ptAt d a s - ((gapS (addS (lfB d (d 123 a).toNat) s) : Int) - gapS (lfB d (d 123 a).toNat)) * 1024
theorem muI_r (d : Dt) (a : Nat) : 0 ≤ muI d a ∧ muI d a ≤ 1 := by unfold muI; split <;> omega
theorem gapS_le (p : Nat → Bool) : gapS p ≤ 32 := fb_ct_le _ _
theorem gapS_add (p : Nat → Bool) (s : Nat) (hs : s < 32) : gapS p ≤ gapS (addS p s) + 1 := by
  have h1 : gapS p ≤ fb_ct (fun k => if k = s then true else gapP (addS p s) k) 32 := fb_ct_sub fun k _ h => by
    by_cases e : k = s
    · rw [if_pos e]
    · rw [if_neg e]
      unfold gapP at h ⊢
      rw [Bool.and_eq_true, Bool.and_eq_true, pd_iff, pd_iff] at h ⊢
      obtain ⟨g1, ⟨x, x1, x2⟩, ⟨y, y1, y2⟩⟩ := h
      exact ⟨by unfold addS; rw [decide_eq_false e, Bool.or_false]; exact g1, ⟨x, x1, by unfold addS; rw [x2]; rfl⟩, ⟨y, y1, by unfold addS; rw [y2]; rfl⟩⟩
  have h2 := fb_ct_upd (gapP (addS p s)) true (i := s) (n := 32) hs
  rw [if_pos (show true = true from rfl)] at h2
  have h3 : fb_ct (gapP (addS p s)) 32 = gapS (addS p s) := rfl
  split at h2 <;> omega
theorem lfB_up (d : Dt) (hD : DOk d) (a s : Nat) (ha : (a : Int) < d 98 32) (hu : d 125 a = -1) (hN : NC d a s) (f : Nat) : lfB (upS d a s) f = if (f : Int) = d 123 a then addS (lfB d f) s else lfB d f := by
  funext k
  show pd (laidF (upS d a s) f k) = _
  rw [(up_bits d hD a s ha hu hN).1 f k]
  by_cases e : (f : Int) = d 123 a
  · rw [if_pos e]
    show _ = (pd (laidF d f k) || decide (k = s))
    by_cases g : k = s
    · rw [decide_eq_true (show (f : Int) = d 123 a ∧ k = s from ⟨e, g⟩), decide_eq_true g, Bool.or_true]
      rw [pd_f (p := laidF d f k)]
      · rfl
      · rintro ⟨o, o1, o2, o3⟩
        by_cases oa : o = a
        · rw [oa, hu] at o3; omega
        · exact (hN o o1 oa (by omega)).1 (by omega)
    · rw [decide_eq_false (fun z => g z.2), decide_eq_false g, Bool.xor_false, Bool.or_false]
  · rw [if_neg e, decide_eq_false (fun z => e z.1), Bool.xor_false]
    rfl
theorem gn_worth (d : Dt) (hD : DOk d) (a s : Nat) (ha : (a : Int) < d 98 32) (hu : d 125 a = -1) (hN : NC d a s) : wD (upS d a s) = wD d + gnU d a s := by
  obtain ⟨c1, c2, c3⟩ := up_cnt d a s ha hu
  have e32 : upS d a s 98 32 = d 98 32 := upS_ne _ _ _ (by omega)
  have hfa := (hD.2.2.2.2.2.2 a ha).1
  obtain ⟨f, hf⟩ : ∃ f : Nat, d 123 a = f := ⟨(d 123 a).toNat, by omega⟩
  have v1 : vA (upS d a s) = vA d + 1 := vA_up d a ha hu s
  have v2 : (vM (upS d a s) : Int) = vM d + muI d a := by
    unfold vM muI
    rw [e32]
    have e : (fun k => isLd (upS d a s) k && decide (upS d a s 126 k = 1)) = fun k => isLd (upS d a s) k && decide (d 126 k = 1) := funext fun k => by rw [upS_ne _ _ _ (by omega)]
    rw [e]
    exact c2
  have v3 : vP (upS d a s) = vP d + ptAt d a s := by
    unfold vP
    rw [e32]
    exact c3
  have v4 : (vW (upS d a s) : Int) = vW d - gapS (lfB d f) + gapS (addS (lfB d f) s) := by
    have e : (fun k => gapD (upS d a s) k) = (fun k => if k = f then gapS (addS (lfB d f) s) else gapD d k) := funext fun k => by
      show gapS (lfB (upS d a s) k) = _
      rw [lfB_up d hD a s ha hu hN k]
      by_cases g : k = f
      · rw [if_pos (by omega), if_pos g, g]
      · rw [if_neg (by omega), if_neg g]
        rfl
    have h9 : fb_sm (fun k => if k = f then gapS (addS (lfB d f) s) else gapD d k) 15 + gapD d f = fb_sm (fun k => gapD d k) 15 + gapS (addS (lfB d f) s) := fb_sm_upd (fun k => gapD d k) _ (by omega)
    have h8 : gapD d f = gapS (lfB d f) := rfl
    unfold vW
    rw [e]
    omega
  unfold wD gnU
  rw [hf, Int.toNat_natCast]
  omega
theorem vW_0 (d : Dt) (hD : DOk d) (h : vA d = 0) : vW d = 0 := by
  unfold vA at h
  have h0 : ∀ f, f < 15 → gapD d f = 0 := fun f hf => (gap_none d hD.2.2.2.2.1 f (fb_ct_zero.mpr fun k hk => by
    have h2 : isLd d k = false := fb_ct_zero.mp h k hk
    unfold wC
    rw [h2, Bool.and_false])).1
  unfold vW
  rw [fb_sm_cong (g := fun _ => 0) h0, fb_sm_const]
theorem wD_r (d : Dt) (hD : DOk d) : 0 ≤ wD d ∧ wD d ≤ 3000000000 := by
  have h1 := val_r d hD
  have h2 := vW_0 d hD
  unfold wD
  by_cases e : vA d = 0
  · have := h2 e
    omega
  · omega
theorem runDn_mono {p q : Nat → Bool} (h : ∀ k, p k = true → q k = true) : ∀ k, runDn p k ≤ runDn q k
  | 0 => Nat.le_refl _
  | k + 1 => by
    have ih := runDn_mono h k
    rw [runDn, runDn]
    cases e : p k
    · simp
    · rw [h k e]
      simp only [if_true]
      omega
theorem runUp_mono {p q : Nat → Bool} (h : ∀ k, p k = true → q k = true) : ∀ r s, runUp p s r ≤ runUp q s r
  | 0, _ => Nat.le_refl _
  | r + 1, s => by
    have ih := runUp_mono h r (s + 1)
    rw [runUp, runUp]
    cases e : p s
    · simp
    · rw [h s e]
      simp only [if_true]
      omega
/-- with more laid no slot opens -/
theorem mb_down {d d' : Dt} (q : ∀ c k, ¬ c = 125 → d' c k = d c k) (h : ∀ o : Nat, d 125 o ≠ -1 → d' 125 o = d 125 o) {a s : Nat} (hm : mbV d' a s = true) : mbV d a s = true := by
  simp only [mbV, Bool.and_eq_true, decide_eq_true_eq, pd_iff] at hm ⊢
  simp (disch := omega) only [q] at hm
  obtain ⟨m1, m2, m3⟩ := hm
  refine ⟨m1, fun o ho => ?_, ?_⟩
  · intro hl
    have h3 := m2 o ho
    unfold okV wslV wkV at h3
    simp (disch := omega) only [q, h o hl] at h3
    exact h3 hl
  · unfold restB at m3 ⊢
    rw [decide_eq_true_eq] at m3 ⊢
    simp (disch := omega) only [q] at m3
    rcases m3 with m3 | m3
    · exact Or.inl m3
    · right
      have hm : ∀ k, ltB d (d 124 a).toNat k = true → ltB d' (d 124 a).toNat k = true := fun k hk => by
        unfold ltB at hk ⊢
        rw [pd_iff] at hk ⊢
        obtain ⟨o, o1, o2, o3⟩ := hk
        exact ⟨o, by rw [q _ _ (by omega)]; exact o1, by rw [q _ _ (by omega)]; exact o2, by rw [h o (by omega)]; exact o3⟩
      have g1 := runDn_mono hm s
      have g2 := runUp_mono hm (19 - s) (s + 1)
      omega
noncomputable def leafB (d : Dt) (b : Bs) : Bs := if b.1 < wD d then (wD d, d) else b
noncomputable def slE (F : Dt → Bs → Bs) (al : Nat → Bool) (d : Dt) (a : Nat) : Nat → Nat → Bs → Bs
  | 0, _, b => b
  | r + 1, s, b => slE F al d a r (s + 1) (if mbV d a s && al s then F (upS d a s) b else b)
noncomputable def enB (p : Nat → Nat) (al : Nat → Bool) : Nat → Nat → Dt → Bs → Bs
  | 0, _, d, b => leafB d b
  | r + 1, i, d, b => enB p al r (i + 1) d (slE (enB p al r (i + 1)) al d (p i) 20 0 b)
def LeB (p : Nat → Nat) (al : Nat → Bool) : Nat → Nat → Dt → Int → Prop
  | 0, _, d, W => wD d ≤ W
  | r + 1, i, d, W => LeB p al r (i + 1) d W ∧ ∀ s, s < 20 → mbV d (p i) s = true → al s = true → LeB p al r (i + 1) (upS d (p i) s) W
theorem slE_id (F : Dt → Bs → Bs) (al : Nat → Bool) (d : Dt) (a : Nat) (b : Bs) : ∀ r s, (∀ s', s ≤ s' → s' < s + r → mbV d a s' = true → al s' = true → F (upS d a s') b = b) → slE F al d a r s b = b
  | 0, _, _ => rfl
  | r + 1, s, h => by
    have ih := slE_id F al d a b r (s + 1) (fun s' h1 h2 => h s' (by omega) (by omega))
    rw [slE]
    cases e : (mbV d a s && al s)
    · exact ih
    · rw [Bool.and_eq_true] at e
      rw [if_pos rfl, h s (Nat.le_refl _) (by omega) e.1 e.2]
      exact ih
theorem enB_skip (p : Nat → Nat) (al : Nat → Bool) : ∀ r i d b, LeB p al r i d b.1 → enB p al r i d b = b
  | 0, i, d, b, h => by
    have h' : wD d ≤ b.1 := h
    rw [enB, leafB, if_neg (by omega)]
  | r + 1, i, d, b, h => by
    rw [LeB] at h
    rw [enB, slE_id _ al d (p i) b 20 0 (fun s' _ h2 h3 h4 => enB_skip p al r (i + 1) _ b (h.2 s' (by omega) h3 h4))]
    exact enB_skip p al r (i + 1) d b h.1
def Reach (d0 : Dt) (p : Nat → Nat) (al : Nat → Bool) : Nat → Dt → Prop
  | 0, d => d = d0
  | i + 1, d => ∃ d', Reach d0 p al i d' ∧ (d = d' ∨ ∃ s, s < 20 ∧ mbV d' (p i) s = true ∧ al s = true ∧ d = upS d' (p i) s)
def Pk (d0 : Dt) (p : Nat → Nat) (N : Nat) : Prop := N ≤ 4 ∧ DOk d0 ∧ (∀ j, j < N → (p j : Int) < d0 98 32 ∧ d0 125 (p j) = -1) ∧ ∀ i j, i < N → j < N → p i = p j → i = j
theorem Reach.f {d0 : Dt} {p : Nat → Nat} {al : Nat → Bool} {N : Nat} (hP : Pk d0 p N) : ∀ {i : Nat} {d : Dt}, i ≤ N → Reach d0 p al i d → DOk d ∧ (∀ c k, ¬ c = 125 → d c k = d0 c k) ∧ ∀ k, (∀ j, j < i → k ≠ p j) → d 125 k = d0 125 k
  | 0, d, _, h => by
    have h' : d = d0 := h
    rw [h']
    exact ⟨hP.2.1, fun _ _ _ => rfl, fun _ _ => rfl⟩
  | i + 1, d, hi, h => by
    obtain ⟨d', r1, h2⟩ := h
    have ih := Reach.f hP (by omega) r1
    rcases h2 with h2 | ⟨s, s1, s2, s3, h2⟩
    · rw [h2]
      exact ⟨ih.1, ih.2.1, fun k hk => ih.2.2 k fun j hj => hk j (by omega)⟩
    · rw [h2]
      refine ⟨ih.1.up _ _ (by omega), fun c k hc => by rw [upS_ne _ _ _ hc]; exact ih.2.1 c k hc, fun k hk => ?_⟩
      rw [upS_eq, if_neg (hk i (by omega))]
      exact ih.2.2 k fun j hj => hk j (by omega)
theorem Reach.un {d0 : Dt} {p : Nat → Nat} {al : Nat → Bool} {N : Nat} (hP : Pk d0 p N) {i : Nat} {d : Dt} (hi : i < N) (h : Reach d0 p al i d) : d 125 (p i) = -1 ∧ (p i : Int) < d 98 32 := by
  have h1 := h.f hP (by omega)
  rw [h1.2.2 (p i) (fun j hj e => by have := hP.2.2.2 i j hi (by omega) e; omega), h1.2.1 98 32 (by omega)]
  exact ⟨(hP.2.2.1 i hi).2, (hP.2.2.1 i hi).1⟩
theorem Reach.nx {d0 : Dt} {p : Nat → Nat} {al : Nat → Bool} {i : Nat} {d : Dt} (h : Reach d0 p al i d) : Reach d0 p al (i + 1) d := ⟨d, h, Or.inl rfl⟩
theorem Reach.up {d0 : Dt} {p : Nat → Nat} {al : Nat → Bool} {i : Nat} {d : Dt} (h : Reach d0 p al i d) {s : Nat} (h1 : s < 20) (h2 : mbV d (p i) s = true) (h3 : al s = true) : Reach d0 p al (i + 1) (upS d (p i) s) := ⟨d, h, Or.inr ⟨s, h1, h2, h3, rfl⟩⟩
theorem Reach.dn {d0 : Dt} {p : Nat → Nat} {al : Nat → Bool} {N : Nat} (hP : Pk d0 p N) {i : Nat} {d : Dt} (hi : i ≤ N) (h : Reach d0 p al i d) (o : Nat) (ho : d0 125 o ≠ -1) : d 125 o = d0 125 o :=
  (h.f hP hi).2.2 o fun j hj e => ho (by rw [e]; exact (hP.2.2.1 j (by omega)).2)
def bOK (d0 : Dt) (p : Nat → Nat) (al : Nat → Bool) (N : Nat) (b : Bs) : Prop := b.1 = -1 ∨ (b.1 = wD b.2 ∧ Reach d0 p al N b.2)
theorem slE_ok {d0 : Dt} {p : Nat → Nat} {al : Nat → Bool} {N : Nat} {i : Nat} {d : Dt} (hR : Reach d0 p al i d) (F : Dt → Bs → Bs) (hF : ∀ d b, Reach d0 p al (i + 1) d → bOK d0 p al N b → bOK d0 p al N (F d b)) : ∀ r s b, s + r = 20 → bOK d0 p al N b → bOK d0 p al N (slE F al d (p i) r s b)
  | 0, _, b, _, h => h
  | r + 1, s, b, hs, h => by
    rw [slE]
    refine slE_ok hR F hF r (s + 1) _ (by omega) ?_
    cases e : (mbV d (p i) s && al s)
    · exact h
    · rw [Bool.and_eq_true] at e
      exact hF _ _ (hR.up (by omega) e.1 e.2) h
theorem enB_ok {d0 : Dt} {p : Nat → Nat} {al : Nat → Bool} {N : Nat} : ∀ r i d b, i + r = N → Reach d0 p al i d → bOK d0 p al N b → bOK d0 p al N (enB p al r i d b)
  | 0, i, d, b, hi, h, hb => by
    rw [enB, leafB]
    split
    · exact Or.inr ⟨rfl, by rw [← hi]; exact h⟩
    · exact hb
  | r + 1, i, d, b, hi, h, hb => by
    rw [enB]
    exact enB_ok r (i + 1) d _ (by omega) h.nx (slE_ok h _ (fun d b h1 h2 => enB_ok r (i + 1) d b (by omega) h1 h2) 20 0 b (by omega) hb)
theorem enB_ge (p : Nat → Nat) (al : Nat → Bool) : ∀ r i d b, wD d ≤ (enB p al r i d b).1
  | 0, i, d, b => by
    rw [enB, leafB]
    split
    · exact Int.le_refl _
    · omega
  | r + 1, i, d, b => by
    rw [enB]
    exact enB_ge p al r (i + 1) d _
/-- from a later slot on: the slots before are not allowed -/
theorem slE_from (F : Dt → Bs → Bs) (al : Nat → Bool) (d : Dt) (a : Nat) (b : Bs) : ∀ k s r, (∀ s', s ≤ s' → s' < s + k → al s' = false) → slE F al d a (k + r) s b = slE F al d a r (s + k) b
  | 0, s, r, _ => by rw [Nat.zero_add, Nat.add_zero]
  | k + 1, s, r, h => by
    rw [show k + 1 + r = (k + r) + 1 by omega, slE, h s (Nat.le_refl _) (by omega), Bool.and_false]
    have := slE_from F al d a b k (s + 1) r (fun s' h1 h2 => h s' (by omega) (by omega))
    rw [show s + (k + 1) = s + 1 + k by omega]
    exact this
