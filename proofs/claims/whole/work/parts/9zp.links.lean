/-! the references that the constructors leave: what stays is as the finished world has it (by program) -/
def lset (L : Nat → Nat → Option Nat) (c k : Nat) (v : Option Nat) : Nat → Nat → Option Nat := fun c' k' => bif Nat.beq c' c then (bif Nat.beq k' k then v else L c' k') else L c' k'
def lzer (L : Nat → Nat → Option Nat) (c : Nat) : Nat → Nat → Option Nat := fun c' k' => bif Nat.beq c' c then none else L c' k'
/-- the references of m are those of L, but for the row of policies and the stop -/
def RLk (m : qM) (L : Nat → Nat → Option Nat) : Prop := ∀ c k, ¬ c = 8 → ¬ c = 109 → gR m c k = L c k
theorem nbq_t {a b : Nat} (h : a = b) : Nat.beq a b = true := by rw [h]; exact Nat.beq_refl b
theorem nbq_f {a b : Nat} (h : ¬ a = b) : Nat.beq a b = false := by
  cases hb : Nat.beq a b
  · rfl
  · exact absurd (Nat.eq_of_beq_eq_true hb) h
theorem rk_qz {m : qM} {L : Nat → Nat → Option Nat} {c : Nat} (h : RLk m L) : RLk (qz m c) (lzer L c) := fun c' k' h1 h2 => by
  rw [gR_qz, lzer]
  by_cases e : c' = c
  · rw [if_pos e, nbq_t e, cond_true]
  · rw [if_neg e, nbq_f e, cond_false]
    exact h c' k' h1 h2
theorem rk_sR {m : qM} {L : Nat → Nat → Option Nat} {c k : Nat} {v : Option Nat} (h : RLk m L) : RLk (sR m c k v) (lset L c k v) := fun c' k' h1 h2 => by
  rw [gR_sR, lset]
  by_cases e : c' = c
  · by_cases e2 : k' = k
    · rw [if_pos ⟨e, e2⟩, nbq_t e, nbq_t e2, cond_true, cond_true]
    · rw [if_neg (fun z => e2 z.2), nbq_t e, nbq_f e2, cond_true, cond_false]
      exact h c' k' h1 h2
  · rw [if_neg (fun z => e z.1), nbq_f e, cond_false]
    exact h c' k' h1 h2
theorem rk_off {m : qM} {L : Nat → Nat → Option Nat} {c k : Nat} {v : Option Nat} (hc : c = 8 ∨ c = 109) (h : RLk m L) : RLk (sR m c k v) L := fun c' k' h1 h2 => by
  rw [gR_sR, if_neg (fun z => by have := z.1; omega)]
  exact h c' k' h1 h2
theorem rk_sI {m : qM} {L : Nat → Nat → Option Nat} {c k : Nat} {v : Int32} (h : RLk m L) : RLk (sI m c k v) L := fun c' k' h1 h2 => by
  rw [gR_sI]
  exact h c' k' h1 h2
theorem rk_sL {m : qM} {L : Nat → Nat → Option Nat} {c k : Nat} {v : Int64} (h : RLk m L) : RLk (sL m c k v) L := fun c' k' h1 h2 => by
  rw [gR_sL]
  exact h c' k' h1 h2
theorem cnd_t {ρ : Type} {b : Bool} {x : Option ρ} {r : ρ} (h : (bif b then x else none) = some r) : x = some r := by
  cases b
  · cases h
  · exact h
theorem cnd_f {ρ : Type} {b : Bool} {x : Option ρ} {r : ρ} (h : (bif b then none else x) = some r) : x = some r := by
  cases b
  · exact h
  · cases h
theorem cnd_x {ρ : Type} {b : Bool} {x y : Option ρ} {r : ρ} (h : (bif b then x else y) = some r) : x = some r ∨ y = some r := by
  cases b
  · exact Or.inr h
  · exact Or.inl h
theorem qbV_x {ρ : Type} {c : Option (Unit × qM)} {k : qM → Option ρ} {r : ρ} (h : qbV c k = some r) : ∃ u m, c = some (u, m) ∧ k m = some r := by
  cases c with
  | none => cases h
  | some p => exact ⟨p.1, p.2, rfl, h⟩
theorem qbN_x {ρ : Type} {c : Option Nat} {k : Nat → Option ρ} {r : ρ} (h : qbN c k none = some r) : ∃ q, k q = some r := by
  cases c with
  | none => cases h
  | some p => exact ⟨p, h⟩
theorem pTh_init_31 {m : qM} {L : Nat → Nat → Option Nat} {r : Unit × qM} (hL : RLk m L) (h : fTh_init_31 m = some r) : RLk r.2 L := by
  unfold fTh_init_31 at h
  cases h
  exact hL
theorem pTh_init_20 {a3 : Int32} {m : qM} {L : Nat → Nat → Option Nat} {r : Unit × qM} (hL : RLk m L) (h : fTh_init_20 a3 m = some r) : RLk r.2 L := by
  unfold fTh_init_20 at h
  rcases cnd_x h with h | h
  · exact pTh_init_31 (rk_off (Or.inr rfl) (rk_off (Or.inr rfl) (rk_off (Or.inr rfl) hL))) h
  · exact pTh_init_31 (rk_off (Or.inr rfl) (rk_off (Or.inr rfl) hL)) h
theorem pTh_init {a3 a4 : Int32} {m : qM} {L : Nat → Nat → Option Nat} {r : Unit × qM} (hL : RLk m L) (h : fTh_init a3 a4 m = some r) : RLk r.2 L := by
  rw [fTh_init_d] at h
  replace h : fTh_init_0 a3 a4 m = some r := h
  unfold fTh_init_0 at h
  exact pTh_init_20 (rk_off (Or.inr rfl) (rk_off (Or.inr rfl) (rk_off (Or.inr rfl) (rk_off (Or.inr rfl) hL)))) (cnd_t h)
theorem pEx_init {a3 a4 : Int32} {m : qM} {L : Nat → Nat → Option Nat} {r : Unit × qM} (hL : RLk m L) (h : fEx_init a3 a4 m = some r) : RLk r.2 L := by
  rw [fEx_init_d] at h
  replace h : fEx_init_0 a3 a4 m = some r := h
  unfold fEx_init_0 at h
  obtain ⟨u, m1, e, h⟩ := qbV_x h
  have e9 := pTh_init hL e
  cases h
  exact e9
theorem pX12_init {m : qM} {L : Nat → Nat → Option Nat} {r : Unit × qM} (hL : RLk m L) (h : fX12_init m = some r) : RLk r.2 L := by
  rw [fX12_init_d] at h
  replace h : fX12_init_0 m = some r := h
  unfold fX12_init_0 at h
  obtain ⟨u, m1, e, h⟩ := qbV_x h
  have e9 := pEx_init hL e
  cases h
  exact e9
def FX12_init (L : Nat → Nat → Option Nat) : Nat → Nat → Option Nat := L
theorem pX7_init_12 {L : Nat → Nat → Option Nat} : ∀ (g : Nat) (i : Int32) (m : qM) (r : Unit × qM), RLk m L → fX7_init_12 g i m = some r → RLk r.2 L := by
  intro g
  induction g with
  | zero =>
    intro i m r hL h
    rw [fX7_init_12] at h
    cases h
  | succ g ih =>
    intro i m r hL h
    rw [fX7_init_12] at h
    rcases cnd_x h with h | h
    · cases h; exact hL
    · obtain ⟨q, h⟩ := qbN_x h
      replace h := cnd_t h
      replace h := cnd_t h
      replace h := cnd_t h
      exact ih _ _ _ (rk_sI (hL)) h
theorem pX10_init_39 {L : Nat → Nat → Option Nat} : ∀ (g : Nat) (i : Int32) (m : qM) (r : Unit × qM), RLk m L → fX10_init_39 g i m = some r → RLk r.2 L := by
  intro g
  induction g with
  | zero =>
    intro i m r hL h
    rw [fX10_init_39] at h
    cases h
  | succ g ih =>
    intro i m r hL h
    rw [fX10_init_39] at h
    rcases cnd_x h with h | h
    · cases h; exact hL
    · obtain ⟨q, h⟩ := qbN_x h
      replace h := cnd_t h
      replace h := cnd_t h
      exact ih _ _ _ (rk_sI (hL)) h
theorem pX3_init_47 {k : Int32 → qM → Option (Unit × qM)} {L : Nat → Nat → Option Nat} (hk : ∀ i m r, RLk m L → k i m = some r → RLk r.2 L) : ∀ (g : Nat) (i : Int32) (m : qM) (r : Unit × qM), RLk m L → fX3_init_47 k g i m = some r → RLk r.2 L := by
  intro g
  induction g with
  | zero =>
    intro i m r hL h
    rw [fX3_init_47] at h
    cases h
  | succ g ih =>
    intro i m r hL h
    rw [fX3_init_47] at h
    rcases cnd_x h with h | h
    · exact hk _ _ _ hL h
    · obtain ⟨q, h⟩ := qbN_x h
      replace h := cnd_t h
      replace h := cnd_t h
      exact ih _ _ _ (rk_sI (hL)) h
theorem pX3_init_59 {L : Nat → Nat → Option Nat} : ∀ (g : Nat) (i : Int32) (m : qM) (r : Unit × qM), RLk m L → fX3_init_59 g i m = some r → RLk r.2 L := by
  intro g
  induction g with
  | zero =>
    intro i m r hL h
    rw [fX3_init_59] at h
    cases h
  | succ g ih =>
    intro i m r hL h
    rw [fX3_init_59] at h
    rcases cnd_x h with h | h
    · cases h; exact hL
    · obtain ⟨q, h⟩ := qbN_x h
      replace h := cnd_t h
      replace h := cnd_t h
      obtain ⟨q, h⟩ := qbN_x h
      replace h := cnd_t h
      replace h := cnd_t h
      exact ih _ _ _ (rk_sI (rk_sI (hL))) h
theorem pX4_init_64 {k : Int32 → qM → Option (Unit × qM)} {L : Nat → Nat → Option Nat} (hk : ∀ i m r, RLk m L → k i m = some r → RLk r.2 L) : ∀ (g : Nat) (i : Int32) (m : qM) (r : Unit × qM), RLk m L → fX4_init_64 k g i m = some r → RLk r.2 L := by
  intro g
  induction g with
  | zero =>
    intro i m r hL h
    rw [fX4_init_64] at h
    cases h
  | succ g ih =>
    intro i m r hL h
    rw [fX4_init_64] at h
    rcases cnd_x h with h | h
    · exact hk _ _ _ hL h
    · obtain ⟨q, h⟩ := qbN_x h
      replace h := cnd_t h
      replace h := cnd_t h
      exact ih _ _ _ (rk_sI (hL)) h
theorem pX4_init_76 {L : Nat → Nat → Option Nat} : ∀ (g : Nat) (i : Int32) (m : qM) (r : Unit × qM), RLk m L → fX4_init_76 g i m = some r → RLk r.2 L := by
  intro g
  induction g with
  | zero =>
    intro i m r hL h
    rw [fX4_init_76] at h
    cases h
  | succ g ih =>
    intro i m r hL h
    rw [fX4_init_76] at h
    rcases cnd_x h with h | h
    · cases h; exact hL
    · obtain ⟨q, h⟩ := qbN_x h
      replace h := cnd_t h
      replace h := cnd_t h
      exact ih _ _ _ (rk_sI (hL)) h
theorem pX13_init_256 {k : Int32 → qM → Option (Unit × qM)} {L : Nat → Nat → Option Nat} (hk : ∀ i m r, RLk m L → k i m = some r → RLk r.2 L) : ∀ (g : Nat) (i : Int32) (m : qM) (r : Unit × qM), RLk m L → fX13_init_256 k g i m = some r → RLk r.2 L := by
  intro g
  induction g with
  | zero =>
    intro i m r hL h
    rw [fX13_init_256] at h
    cases h
  | succ g ih =>
    intro i m r hL h
    rw [fX13_init_256] at h
    rcases cnd_x h with h | h
    · exact hk _ _ _ hL h
    · obtain ⟨q, h⟩ := qbN_x h
      replace h := cnd_t h
      replace h := cnd_t h
      obtain ⟨q, h⟩ := qbN_x h
      replace h := cnd_t h
      replace h := cnd_t h
      exact ih _ _ _ (rk_sI (rk_sI (hL))) h
theorem pX13_init_273 {L : Nat → Nat → Option Nat} : ∀ (g : Nat) (i : Int32) (m : qM) (r : Unit × qM), RLk m L → fX13_init_273 g i m = some r → RLk r.2 L := by
  intro g
  induction g with
  | zero =>
    intro i m r hL h
    rw [fX13_init_273] at h
    cases h
  | succ g ih =>
    intro i m r hL h
    rw [fX13_init_273] at h
    rcases cnd_x h with h | h
    · cases h; exact hL
    · obtain ⟨q, h⟩ := qbN_x h
      replace h := cnd_t h
      replace h := cnd_t h
      obtain ⟨q, h⟩ := qbN_x h
      replace h := cnd_t h
      replace h := cnd_t h
      exact ih _ _ _ (rk_sI (rk_sI (hL))) h
def FX8_init (L : Nat → Nat → Option Nat) : Nat → Nat → Option Nat := lset (lzer (L) 2) 1 0 (some 2)
theorem pX8_init {m : qM} {L : Nat → Nat → Option Nat} {r : Unit × qM} (hL : RLk m L) (h : fX8_init m = some r) : RLk r.2 (FX8_init L) := by
  rw [fX8_init_d] at h
  replace h : fX8_init_0 m = some r := h
  unfold fX8_init_0 at h
  unfold FX8_init
  replace h := cnd_t h
  replace h := cnd_f h
  have e9 := Option.some.inj h
  rw [← e9]
  exact rk_sI (rk_sR (rk_qz (hL)))
def FX6_init (L : Nat → Nat → Option Nat) : Nat → Nat → Option Nat := lset (L) 3 0 (some 1)
theorem pX6_init {m : qM} {L : Nat → Nat → Option Nat} {r : Unit × qM} (hL : RLk m L) (h : fX6_init m = some r) : RLk r.2 (FX6_init L) := by
  rw [fX6_init_d] at h
  replace h : fX6_init_0 m = some r := h
  unfold fX6_init_0 at h
  unfold FX6_init
  have e9 := Option.some.inj h
  rw [← e9]
  exact rk_sR (rk_sI (rk_sI (rk_sI (rk_sI (rk_sI (hL))))))
def FX7_init (L : Nat → Nat → Option Nat) : Nat → Nat → Option Nat := lset (lzer (lset (lzer (L) 5) 4 0 (some 5)) 6) 4 1 (some 6)
theorem pX7_init {m : qM} {L : Nat → Nat → Option Nat} {r : Unit × qM} (hL : RLk m L) (h : fX7_init m = some r) : RLk r.2 (FX7_init L) := by
  rw [fX7_init_d] at h
  replace h : fX7_init_0 m = some r := h
  unfold fX7_init_0 at h
  unfold FX7_init
  replace h := cnd_t h
  replace h := cnd_f h
  replace h := cnd_t h
  replace h := cnd_f h
  exact pX7_init_12 _ _ _ _ (rk_sR (rk_qz (rk_sR (rk_qz (hL))))) h
def FX5_init_9 (L : Nat → Nat → Option Nat) : Nat → Nat → Option Nat := lset (lzer (lset (lzer (lset (lzer (lset (lzer (lset (lzer (lset (lzer (L) 10) 9 0 (some 10)) 11) 9 1 (some 11)) 12) 9 2 (some 12)) 13) 9 3 (some 13)) 14) 9 4 (some 14)) 15) 9 5 (some 15)
theorem pX5_init_9 {m : qM} {L : Nat → Nat → Option Nat} {r : Unit × qM} (hL : RLk m L) (h : fX5_init_9 m = some r) : RLk r.2 (FX5_init_9 L) := by
  rw [fX5_init_9_d] at h
  replace h : fX5_init_9_0 m = some r := h
  unfold fX5_init_9_0 at h
  unfold FX5_init_9
  replace h := cnd_t h
  replace h := cnd_f h
  replace h := cnd_t h
  replace h := cnd_f h
  replace h := cnd_t h
  replace h := cnd_f h
  replace h := cnd_t h
  replace h := cnd_f h
  replace h := cnd_t h
  replace h := cnd_f h
  replace h := cnd_t h
  replace h := cnd_f h
  have e9 := Option.some.inj h
  rw [← e9]
  exact rk_sI (rk_sR (rk_qz (rk_sR (rk_qz (rk_sR (rk_qz (rk_sR (rk_qz (rk_sR (rk_qz (rk_sR (rk_qz (hL)))))))))))))
def FX5_init_19 (L : Nat → Nat → Option Nat) : Nat → Nat → Option Nat := lset (lzer (lset (lzer (lset (lzer (lset (lzer (lset (lzer (lset (lzer (L) 20) 19 0 (some 20)) 21) 19 1 (some 21)) 22) 19 2 (some 22)) 23) 19 3 (some 23)) 24) 19 4 (some 24)) 25) 19 5 (some 25)
theorem pX5_init_19 {m : qM} {L : Nat → Nat → Option Nat} {r : Unit × qM} (hL : RLk m L) (h : fX5_init_19 m = some r) : RLk r.2 (FX5_init_19 L) := by
  rw [fX5_init_19_d] at h
  replace h : fX5_init_19_0 m = some r := h
  unfold fX5_init_19_0 at h
  unfold FX5_init_19
  replace h := cnd_t h
  replace h := cnd_f h
  replace h := cnd_t h
  replace h := cnd_f h
  replace h := cnd_t h
  replace h := cnd_f h
  replace h := cnd_t h
  replace h := cnd_f h
  replace h := cnd_t h
  replace h := cnd_f h
  replace h := cnd_t h
  replace h := cnd_f h
  have e9 := Option.some.inj h
  rw [← e9]
  exact rk_sI (rk_sR (rk_qz (rk_sR (rk_qz (rk_sR (rk_qz (rk_sR (rk_qz (rk_sR (rk_qz (rk_sR (rk_qz (hL)))))))))))))
def FX5_init_26 (L : Nat → Nat → Option Nat) : Nat → Nat → Option Nat := lset (lzer (lset (lzer (lset (lzer (lset (lzer (lset (lzer (lset (lzer (L) 27) 26 0 (some 27)) 28) 26 1 (some 28)) 29) 26 2 (some 29)) 30) 26 3 (some 30)) 31) 26 4 (some 31)) 32) 26 5 (some 32)
theorem pX5_init_26 {m : qM} {L : Nat → Nat → Option Nat} {r : Unit × qM} (hL : RLk m L) (h : fX5_init_26 m = some r) : RLk r.2 (FX5_init_26 L) := by
  rw [fX5_init_26_d] at h
  replace h : fX5_init_26_0 m = some r := h
  unfold fX5_init_26_0 at h
  unfold FX5_init_26
  replace h := cnd_t h
  replace h := cnd_f h
  replace h := cnd_t h
  replace h := cnd_f h
  replace h := cnd_t h
  replace h := cnd_f h
  replace h := cnd_t h
  replace h := cnd_f h
  replace h := cnd_t h
  replace h := cnd_f h
  replace h := cnd_t h
  replace h := cnd_f h
  have e9 := Option.some.inj h
  rw [← e9]
  exact rk_sI (rk_sR (rk_qz (rk_sR (rk_qz (rk_sR (rk_qz (rk_sR (rk_qz (rk_sR (rk_qz (rk_sR (rk_qz (hL)))))))))))))
def FX5_init_33 (L : Nat → Nat → Option Nat) : Nat → Nat → Option Nat := lset (lzer (lset (lzer (lset (lzer (lset (lzer (lset (lzer (lset (lzer (L) 34) 33 0 (some 34)) 35) 33 1 (some 35)) 36) 33 2 (some 36)) 37) 33 3 (some 37)) 38) 33 4 (some 38)) 39) 33 5 (some 39)
theorem pX5_init_33 {m : qM} {L : Nat → Nat → Option Nat} {r : Unit × qM} (hL : RLk m L) (h : fX5_init_33 m = some r) : RLk r.2 (FX5_init_33 L) := by
  rw [fX5_init_33_d] at h
  replace h : fX5_init_33_0 m = some r := h
  unfold fX5_init_33_0 at h
  unfold FX5_init_33
  replace h := cnd_t h
  replace h := cnd_f h
  replace h := cnd_t h
  replace h := cnd_f h
  replace h := cnd_t h
  replace h := cnd_f h
  replace h := cnd_t h
  replace h := cnd_f h
  replace h := cnd_t h
  replace h := cnd_f h
  replace h := cnd_t h
  replace h := cnd_f h
  have e9 := Option.some.inj h
  rw [← e9]
  exact rk_sI (rk_sR (rk_qz (rk_sR (rk_qz (rk_sR (rk_qz (rk_sR (rk_qz (rk_sR (rk_qz (rk_sR (rk_qz (hL)))))))))))))
def FX5_init_40 (L : Nat → Nat → Option Nat) : Nat → Nat → Option Nat := lset (lzer (lset (lzer (lset (lzer (lset (lzer (lset (lzer (lset (lzer (L) 41) 40 0 (some 41)) 42) 40 1 (some 42)) 43) 40 2 (some 43)) 44) 40 3 (some 44)) 45) 40 4 (some 45)) 46) 40 5 (some 46)
theorem pX5_init_40 {m : qM} {L : Nat → Nat → Option Nat} {r : Unit × qM} (hL : RLk m L) (h : fX5_init_40 m = some r) : RLk r.2 (FX5_init_40 L) := by
  rw [fX5_init_40_d] at h
  replace h : fX5_init_40_0 m = some r := h
  unfold fX5_init_40_0 at h
  unfold FX5_init_40
  replace h := cnd_t h
  replace h := cnd_f h
  replace h := cnd_t h
  replace h := cnd_f h
  replace h := cnd_t h
  replace h := cnd_f h
  replace h := cnd_t h
  replace h := cnd_f h
  replace h := cnd_t h
  replace h := cnd_f h
  replace h := cnd_t h
  replace h := cnd_f h
  have e9 := Option.some.inj h
  rw [← e9]
  exact rk_sI (rk_sR (rk_qz (rk_sR (rk_qz (rk_sR (rk_qz (rk_sR (rk_qz (rk_sR (rk_qz (rk_sR (rk_qz (hL)))))))))))))
def FX10_init (L : Nat → Nat → Option Nat) : Nat → Nat → Option Nat := FX5_init_40 (lzer (FX5_init_33 (lzer (FX5_init_26 (lzer (FX5_init_19 (lzer (lset (lzer (lset (lzer (lset (lzer (lset (FX5_init_9 (lzer (lset (lzer (L) 8) 7 0 (some 8)) 9)) 7 1 (some 9)) 16) 7 2 (some 16)) 17) 7 3 (some 17)) 18) 7 4 (some 18)) 19)) 26)) 33)) 40)
theorem pX10_init {m : qM} {L : Nat → Nat → Option Nat} {r : Unit × qM} (hL : RLk m L) (h : fX10_init m = some r) : RLk r.2 (FX10_init L) := by
  rw [fX10_init_d] at h
  replace h : fX10_init_0 m = some r := h
  unfold fX10_init_0 at h
  unfold FX10_init
  replace h := cnd_t h
  replace h := cnd_f h
  obtain ⟨u4, m4, e4, h⟩ := qbV_x h
  have r4 := pX5_init_9 (rk_qz (rk_sR (rk_qz (hL)))) e4
  replace h := cnd_t h
  replace h := cnd_f h
  replace h := cnd_t h
  replace h := cnd_f h
  replace h := cnd_t h
  replace h := cnd_f h
  replace h := cnd_f h
  obtain ⟨q12, h⟩ := qbN_x h
  replace h := cnd_t h
  obtain ⟨u14, m14, e14, h⟩ := qbV_x h
  have r14 := pX5_init_19 (rk_qz (rk_sR (rk_qz (rk_sR (rk_qz (rk_sR (rk_qz (rk_sR (r4))))))))) e14
  replace h := cnd_t h
  replace h := cnd_t h
  replace h := cnd_f h
  obtain ⟨q16, h⟩ := qbN_x h
  replace h := cnd_t h
  obtain ⟨u18, m18, e18, h⟩ := qbV_x h
  have r18 := pX5_init_26 (rk_qz (rk_off (Or.inl rfl) (r14))) e18
  replace h := cnd_t h
  replace h := cnd_t h
  replace h := cnd_f h
  obtain ⟨q20, h⟩ := qbN_x h
  replace h := cnd_t h
  obtain ⟨u22, m22, e22, h⟩ := qbV_x h
  have r22 := pX5_init_33 (rk_qz (rk_off (Or.inl rfl) (r18))) e22
  replace h := cnd_t h
  replace h := cnd_t h
  replace h := cnd_f h
  obtain ⟨q24, h⟩ := qbN_x h
  replace h := cnd_t h
  obtain ⟨u26, m26, e26, h⟩ := qbV_x h
  have r26 := pX5_init_40 (rk_qz (rk_off (Or.inl rfl) (r22))) e26
  replace h := cnd_t h
  replace h := cnd_t h
  replace h := cnd_t h
  exact pX10_init_39 _ _ _ _ (rk_off (Or.inl rfl) (r26)) h
def FX3_init (L : Nat → Nat → Option Nat) : Nat → Nat → Option Nat := lset (lset (lzer (lset (lzer (lset (lzer (lset (lzer (lset (lzer (lset (lzer (lset (lzer (lset (lzer (lset (lzer (lset (lzer (L) 48) 47 1 (some 48)) 49) 47 2 (some 49)) 50) 47 3 (some 50)) 51) 47 4 (some 51)) 52) 47 5 (some 52)) 53) 47 6 (some 53)) 54) 47 7 (some 54)) 55) 47 8 (some 55)) 56) 47 9 (some 56)) 57) 47 10 (some 57)) 47 0 (some 4)
theorem pX3_init {m : qM} {L : Nat → Nat → Option Nat} {r : Unit × qM} (hL : RLk m L) (h : fX3_init m = some r) : RLk r.2 (FX3_init L) := by
  rw [fX3_init_d] at h
  replace h : fX3_init_0 m = some r := h
  unfold fX3_init_0 at h
  unfold FX3_init
  replace h := cnd_t h
  replace h := cnd_f h
  replace h := cnd_t h
  replace h := cnd_f h
  replace h := cnd_t h
  replace h := cnd_f h
  replace h := cnd_t h
  replace h := cnd_f h
  replace h := cnd_t h
  replace h := cnd_f h
  replace h := cnd_t h
  replace h := cnd_f h
  replace h := cnd_t h
  replace h := cnd_f h
  replace h := cnd_t h
  replace h := cnd_f h
  replace h := cnd_t h
  replace h := cnd_f h
  replace h := cnd_t h
  replace h := cnd_f h
  exact pX3_init_47 (pX3_init_59 _) _ _ _ _ (rk_sR (rk_sR (rk_qz (rk_sR (rk_qz (rk_sR (rk_qz (rk_sR (rk_qz (rk_sR (rk_qz (rk_sR (rk_qz (rk_sR (rk_qz (rk_sR (rk_qz (rk_sR (rk_qz (rk_sR (rk_qz (hL)))))))))))))))))))))) h
def FX4_init (L : Nat → Nat → Option Nat) : Nat → Nat → Option Nat := lset (lset (lset (lzer (lset (lzer (lset (lzer (lset (lzer (lset (lzer (lset (lzer (lset (lzer (lset (lzer (lset (lzer (L) 59) 58 2 (some 59)) 60) 58 3 (some 60)) 61) 58 4 (some 61)) 62) 58 5 (some 62)) 63) 58 6 (some 63)) 64) 58 7 (some 64)) 65) 58 8 (some 65)) 66) 58 9 (some 66)) 67) 58 10 (some 67)) 58 0 (some 4)) 58 1 (some 47)
theorem pX4_init {m : qM} {L : Nat → Nat → Option Nat} {r : Unit × qM} (hL : RLk m L) (h : fX4_init m = some r) : RLk r.2 (FX4_init L) := by
  rw [fX4_init_d] at h
  replace h : fX4_init_0 m = some r := h
  unfold fX4_init_0 at h
  unfold FX4_init
  replace h := cnd_t h
  replace h := cnd_f h
  replace h := cnd_t h
  replace h := cnd_f h
  replace h := cnd_t h
  replace h := cnd_f h
  replace h := cnd_t h
  replace h := cnd_f h
  replace h := cnd_t h
  replace h := cnd_f h
  replace h := cnd_t h
  replace h := cnd_f h
  replace h := cnd_t h
  replace h := cnd_f h
  replace h := cnd_t h
  replace h := cnd_f h
  replace h := cnd_t h
  replace h := cnd_f h
  exact pX4_init_64 (pX4_init_76 _) _ _ _ _ (rk_sR (rk_sR (rk_sI (rk_sI (rk_sI (rk_sI (rk_sI (rk_sI (rk_sR (rk_qz (rk_sR (rk_qz (rk_sR (rk_qz (rk_sR (rk_qz (rk_sR (rk_qz (rk_sR (rk_qz (rk_sR (rk_qz (rk_sR (rk_qz (rk_sR (rk_qz (hL))))))))))))))))))))))))))) h
def FX0_init (L : Nat → Nat → Option Nat) : Nat → Nat → Option Nat := lset (lset (lset (lzer (lset (lzer (lset (lzer (lset (lzer (lset (lzer (L) 69) 68 2 (some 69)) 70) 68 3 (some 70)) 71) 68 4 (some 71)) 72) 68 5 (some 72)) 73) 68 6 (some 73)) 68 0 (some 47)) 68 1 (some 58)
theorem pX0_init {m : qM} {L : Nat → Nat → Option Nat} {r : Unit × qM} (hL : RLk m L) (h : fX0_init m = some r) : RLk r.2 (FX0_init L) := by
  rw [fX0_init_d] at h
  replace h : fX0_init_0 m = some r := h
  unfold fX0_init_0 at h
  unfold FX0_init
  replace h := cnd_t h
  replace h := cnd_f h
  replace h := cnd_t h
  replace h := cnd_f h
  replace h := cnd_t h
  replace h := cnd_f h
  replace h := cnd_t h
  replace h := cnd_f h
  replace h := cnd_t h
  replace h := cnd_f h
  have e9 := Option.some.inj h
  rw [← e9]
  exact rk_sR (rk_sR (rk_sL (rk_sI (rk_sI (rk_sI (rk_sL (rk_sI (rk_sI (rk_sR (rk_qz (rk_sR (rk_qz (rk_sR (rk_qz (rk_sR (rk_qz (rk_sR (rk_qz (hL)))))))))))))))))))
def FX9_init (L : Nat → Nat → Option Nat) : Nat → Nat → Option Nat := lset (lzer (lset (lzer (lset (lzer (lset (lzer (lset (lzer (L) 75) 74 0 (some 75)) 76) 74 1 (some 76)) 77) 74 2 (some 77)) 78) 74 3 (some 78)) 79) 74 4 (some 79)
theorem pX9_init {m : qM} {L : Nat → Nat → Option Nat} {r : Unit × qM} (hL : RLk m L) (h : fX9_init m = some r) : RLk r.2 (FX9_init L) := by
  rw [fX9_init_d] at h
  replace h : fX9_init_0 m = some r := h
  unfold fX9_init_0 at h
  unfold FX9_init
  replace h := cnd_t h
  replace h := cnd_f h
  replace h := cnd_t h
  replace h := cnd_f h
  replace h := cnd_t h
  replace h := cnd_f h
  replace h := cnd_t h
  replace h := cnd_f h
  replace h := cnd_t h
  replace h := cnd_f h
  have e9 := Option.some.inj h
  rw [← e9]
  exact rk_sI (rk_sR (rk_qz (rk_sR (rk_qz (rk_sR (rk_qz (rk_sR (rk_qz (rk_sR (rk_qz (hL)))))))))))
def FX1_init (L : Nat → Nat → Option Nat) : Nat → Nat → Option Nat := lset (lset (lset (lset (lset (lset (lzer (lset (lzer (lset (lzer (lset (lzer (lset (lzer (lset (lzer (lset (lzer (lset (lzer (lset (lzer (lset (lzer (lset (lzer (lset (lzer (L) 81) 80 5 (some 81)) 82) 80 6 (some 82)) 83) 80 7 (some 83)) 84) 80 10 (some 84)) 85) 80 11 (some 85)) 86) 80 12 (some 86)) 87) 80 13 (some 87)) 88) 80 14 (some 88)) 89) 80 15 (some 89)) 90) 80 16 (some 90)) 91) 80 17 (some 91)) 92) 80 18 (some 92)) 80 0 (some 4)) 80 1 (some 7)) 80 2 (some 47)) 80 3 (some 58)) 80 4 (some 74)
theorem pX1_init {m : qM} {L : Nat → Nat → Option Nat} {r : Unit × qM} (hL : RLk m L) (h : fX1_init m = some r) : RLk r.2 (FX1_init L) := by
  rw [fX1_init_d] at h
  replace h : fX1_init_0 m = some r := h
  unfold fX1_init_0 at h
  unfold FX1_init
  replace h := cnd_t h
  replace h := cnd_f h
  replace h := cnd_t h
  replace h := cnd_f h
  replace h := cnd_t h
  replace h := cnd_f h
  replace h := cnd_t h
  replace h := cnd_f h
  replace h := cnd_t h
  replace h := cnd_f h
  replace h := cnd_t h
  replace h := cnd_f h
  replace h := cnd_t h
  replace h := cnd_f h
  replace h := cnd_t h
  replace h := cnd_f h
  replace h := cnd_t h
  replace h := cnd_f h
  replace h := cnd_t h
  replace h := cnd_f h
  replace h := cnd_t h
  replace h := cnd_f h
  replace h := cnd_t h
  replace h := cnd_f h
  have e9 := Option.some.inj h
  rw [← e9]
  exact rk_sR (rk_sR (rk_sR (rk_sR (rk_sR (rk_sR (rk_qz (rk_sR (rk_qz (rk_sR (rk_qz (rk_sR (rk_qz (rk_sR (rk_qz (rk_sR (rk_qz (rk_sR (rk_qz (rk_sR (rk_qz (rk_sR (rk_qz (rk_sI (rk_sI (rk_sR (rk_qz (rk_sR (rk_qz (rk_sR (rk_qz (hL)))))))))))))))))))))))))))))))
def FX2_init (L : Nat → Nat → Option Nat) : Nat → Nat → Option Nat := lset (lset (lzer (lset (lzer (lset (lzer (lset (lzer (L) 94) 93 1 (some 94)) 95) 93 2 (some 95)) 96) 93 3 (some 96)) 97) 93 4 (some 97)) 93 0 (some 58)
theorem pX2_init {m : qM} {L : Nat → Nat → Option Nat} {r : Unit × qM} (hL : RLk m L) (h : fX2_init m = some r) : RLk r.2 (FX2_init L) := by
  rw [fX2_init_d] at h
  replace h : fX2_init_0 m = some r := h
  unfold fX2_init_0 at h
  unfold FX2_init
  replace h := cnd_t h
  replace h := cnd_f h
  replace h := cnd_t h
  replace h := cnd_f h
  replace h := cnd_t h
  replace h := cnd_f h
  replace h := cnd_t h
  replace h := cnd_f h
  have e9 := Option.some.inj h
  rw [← e9]
  exact rk_sR (rk_sI (rk_sI (rk_sR (rk_qz (rk_sR (rk_qz (rk_sR (rk_qz (rk_sR (rk_qz (hL)))))))))))
def FX11_init (L : Nat → Nat → Option Nat) : Nat → Nat → Option Nat := lset (FX2_init (lzer (lset (FX1_init (lzer (lset (FX9_init (lzer (lset (FX0_init (lzer (lset (FX4_init (lzer (lset (FX3_init (lzer (lset (FX10_init (lzer (lset (FX7_init (lzer (lset (FX6_init (lzer (lset (FX8_init (lzer (L) 1)) 0 0 (some 1)) 3)) 0 1 (some 3)) 4)) 0 2 (some 4)) 7)) 0 3 (some 7)) 47)) 0 4 (some 47)) 58)) 0 5 (some 58)) 68)) 0 6 (some 68)) 74)) 0 7 (some 74)) 80)) 0 8 (some 80)) 93)) 0 9 (some 93)
theorem pX11_init {m : qM} {L : Nat → Nat → Option Nat} {r : Unit × qM} (hL : RLk m L) (h : fX11_init m = some r) : RLk r.2 (FX11_init L) := by
  rw [fX11_init_d] at h
  replace h : fX11_init_0 m = some r := h
  unfold fX11_init_0 at h
  unfold FX11_init
  obtain ⟨u2, m2, e2, h⟩ := qbV_x h
  have r2 := pX8_init (rk_qz (hL)) e2
  obtain ⟨q5, h⟩ := qbN_x h
  replace h := cnd_t h
  obtain ⟨u6, m6, e6, h⟩ := qbV_x h
  have r6 := pX6_init (rk_qz (rk_sR (r2))) e6
  obtain ⟨u9, m9, e9, h⟩ := qbV_x h
  have r9 := pX7_init (rk_qz (rk_sR (r6))) e9
  obtain ⟨u12, m12, e12, h⟩ := qbV_x h
  have r12 := pX10_init (rk_qz (rk_sR (r9))) e12
  obtain ⟨q15, h⟩ := qbN_x h
  replace h := cnd_t h
  obtain ⟨u16, m16, e16, h⟩ := qbV_x h
  have r16 := pX3_init (rk_qz (rk_sR (r12))) e16
  obtain ⟨q19, h⟩ := qbN_x h
  replace h := cnd_t h
  obtain ⟨q20, h⟩ := qbN_x h
  replace h := cnd_t h
  obtain ⟨u21, m21, e21, h⟩ := qbV_x h
  have r21 := pX4_init (rk_qz (rk_sR (r16))) e21
  obtain ⟨q24, h⟩ := qbN_x h
  replace h := cnd_t h
  obtain ⟨q25, h⟩ := qbN_x h
  replace h := cnd_t h
  obtain ⟨u26, m26, e26, h⟩ := qbV_x h
  have r26 := pX0_init (rk_qz (rk_sR (r21))) e26
  obtain ⟨u29, m29, e29, h⟩ := qbV_x h
  have r29 := pX9_init (rk_qz (rk_sR (r26))) e29
  obtain ⟨q32, h⟩ := qbN_x h
  replace h := cnd_t h
  obtain ⟨q33, h⟩ := qbN_x h
  replace h := cnd_t h
  obtain ⟨q34, h⟩ := qbN_x h
  replace h := cnd_t h
  obtain ⟨q35, h⟩ := qbN_x h
  replace h := cnd_t h
  obtain ⟨q36, h⟩ := qbN_x h
  replace h := cnd_t h
  obtain ⟨u37, m37, e37, h⟩ := qbV_x h
  have r37 := pX1_init (rk_qz (rk_sR (r29))) e37
  obtain ⟨q40, h⟩ := qbN_x h
  replace h := cnd_t h
  obtain ⟨u41, m41, e41, h⟩ := qbV_x h
  have r41 := pX2_init (rk_qz (rk_sR (r37))) e41
  replace h := cnd_t h
  have e9 := Option.some.inj h
  rw [← e9]
  exact rk_sI (rk_sR (r41))
def FX13_init_250 (L : Nat → Nat → Option Nat) : Nat → Nat → Option Nat := lset (lzer (L) 154) 98 74 (some 154)
theorem pX13_init_250 {m : qM} {L : Nat → Nat → Option Nat} {r : Unit × qM} (hL : RLk m L) (h : fX13_init_250 m = some r) : RLk r.2 (FX13_init_250 L) := by
  unfold fX13_init_250 at h
  unfold FX13_init_250
  replace h := cnd_t h
  replace h := cnd_f h
  exact pX13_init_256 (pX13_init_273 _) _ _ _ _ (rk_sR (rk_qz (hL))) h
def FX13_init_226 (L : Nat → Nat → Option Nat) : Nat → Nat → Option Nat := FX13_init_250 (lset (lzer (lset (lzer (lset (lzer (lset (lzer (lset (lzer (lset (lzer (L) 148) 98 67 (some 148)) 149) 98 68 (some 149)) 150) 98 69 (some 150)) 151) 98 71 (some 151)) 152) 98 72 (some 152)) 153) 98 73 (some 153))
theorem pX13_init_226 {m : qM} {L : Nat → Nat → Option Nat} {r : Unit × qM} (hL : RLk m L) (h : fX13_init_226 m = some r) : RLk r.2 (FX13_init_226 L) := by
  unfold fX13_init_226 at h
  unfold FX13_init_226
  replace h := cnd_t h
  replace h := cnd_f h
  replace h := cnd_t h
  replace h := cnd_f h
  replace h := cnd_t h
  replace h := cnd_f h
  replace h := cnd_t h
  replace h := cnd_f h
  replace h := cnd_t h
  replace h := cnd_f h
  replace h := cnd_t h
  replace h := cnd_f h
  exact pX13_init_250 (rk_sR (rk_qz (rk_sR (rk_qz (rk_sR (rk_qz (rk_sR (rk_qz (rk_sR (rk_qz (rk_sR (rk_qz (hL))))))))))))) h
def FX13_init_198 (L : Nat → Nat → Option Nat) : Nat → Nat → Option Nat := FX13_init_226 (lset (lzer (lset (lzer (lset (lzer (lset (lzer (lset (lzer (lset (lzer (lset (lzer (L) 141) 98 60 (some 141)) 142) 98 61 (some 142)) 143) 98 62 (some 143)) 144) 98 63 (some 144)) 145) 98 64 (some 145)) 146) 98 65 (some 146)) 147) 98 66 (some 147))
theorem pX13_init_198 {m : qM} {L : Nat → Nat → Option Nat} {r : Unit × qM} (hL : RLk m L) (h : fX13_init_198 m = some r) : RLk r.2 (FX13_init_198 L) := by
  unfold fX13_init_198 at h
  unfold FX13_init_198
  replace h := cnd_t h
  replace h := cnd_f h
  replace h := cnd_t h
  replace h := cnd_f h
  replace h := cnd_t h
  replace h := cnd_f h
  replace h := cnd_t h
  replace h := cnd_f h
  replace h := cnd_t h
  replace h := cnd_f h
  replace h := cnd_t h
  replace h := cnd_f h
  replace h := cnd_t h
  replace h := cnd_f h
  exact pX13_init_226 (rk_sR (rk_qz (rk_sR (rk_qz (rk_sR (rk_qz (rk_sR (rk_qz (rk_sR (rk_qz (rk_sR (rk_qz (rk_sR (rk_qz (hL))))))))))))))) h
def FX13_init_170 (L : Nat → Nat → Option Nat) : Nat → Nat → Option Nat := FX13_init_198 (lset (lzer (lset (lzer (lset (lzer (lset (lzer (lset (lzer (lset (lzer (lset (lzer (L) 134) 98 53 (some 134)) 135) 98 54 (some 135)) 136) 98 55 (some 136)) 137) 98 56 (some 137)) 138) 98 57 (some 138)) 139) 98 58 (some 139)) 140) 98 59 (some 140))
theorem pX13_init_170 {m : qM} {L : Nat → Nat → Option Nat} {r : Unit × qM} (hL : RLk m L) (h : fX13_init_170 m = some r) : RLk r.2 (FX13_init_170 L) := by
  unfold fX13_init_170 at h
  unfold FX13_init_170
  replace h := cnd_t h
  replace h := cnd_f h
  replace h := cnd_t h
  replace h := cnd_f h
  replace h := cnd_t h
  replace h := cnd_f h
  replace h := cnd_t h
  replace h := cnd_f h
  replace h := cnd_t h
  replace h := cnd_f h
  replace h := cnd_t h
  replace h := cnd_f h
  replace h := cnd_t h
  replace h := cnd_f h
  exact pX13_init_198 (rk_sR (rk_qz (rk_sR (rk_qz (rk_sR (rk_qz (rk_sR (rk_qz (rk_sR (rk_qz (rk_sR (rk_qz (rk_sR (rk_qz (hL))))))))))))))) h
def FX13_init_142 (L : Nat → Nat → Option Nat) : Nat → Nat → Option Nat := FX13_init_170 (lset (lzer (lset (lzer (lset (lzer (lset (lzer (lset (lzer (lset (lzer (lset (lzer (L) 127) 98 38 (some 127)) 128) 98 39 (some 128)) 129) 98 40 (some 129)) 130) 98 41 (some 130)) 131) 98 42 (some 131)) 132) 98 50 (some 132)) 133) 98 51 (some 133))
theorem pX13_init_142 {m : qM} {L : Nat → Nat → Option Nat} {r : Unit × qM} (hL : RLk m L) (h : fX13_init_142 m = some r) : RLk r.2 (FX13_init_142 L) := by
  unfold fX13_init_142 at h
  unfold FX13_init_142
  replace h := cnd_t h
  replace h := cnd_f h
  replace h := cnd_t h
  replace h := cnd_f h
  replace h := cnd_t h
  replace h := cnd_f h
  replace h := cnd_t h
  replace h := cnd_f h
  replace h := cnd_t h
  replace h := cnd_f h
  replace h := cnd_t h
  replace h := cnd_f h
  replace h := cnd_t h
  replace h := cnd_f h
  exact pX13_init_170 (rk_sR (rk_qz (rk_sR (rk_qz (rk_sR (rk_qz (rk_sR (rk_qz (rk_sR (rk_qz (rk_sR (rk_qz (rk_sR (rk_qz (hL))))))))))))))) h
def FX13_init_114 (L : Nat → Nat → Option Nat) : Nat → Nat → Option Nat := FX13_init_142 (lset (lzer (lset (lzer (lset (lzer (lset (lzer (lset (lzer (lset (lzer (lset (lzer (L) 120) 98 29 (some 120)) 121) 98 30 (some 121)) 122) 98 31 (some 122)) 123) 98 34 (some 123)) 124) 98 35 (some 124)) 125) 98 36 (some 125)) 126) 98 37 (some 126))
theorem pX13_init_114 {m : qM} {L : Nat → Nat → Option Nat} {r : Unit × qM} (hL : RLk m L) (h : fX13_init_114 m = some r) : RLk r.2 (FX13_init_114 L) := by
  unfold fX13_init_114 at h
  unfold FX13_init_114
  replace h := cnd_t h
  replace h := cnd_f h
  replace h := cnd_t h
  replace h := cnd_f h
  replace h := cnd_t h
  replace h := cnd_f h
  replace h := cnd_t h
  replace h := cnd_f h
  replace h := cnd_t h
  replace h := cnd_f h
  replace h := cnd_t h
  replace h := cnd_f h
  replace h := cnd_t h
  replace h := cnd_f h
  exact pX13_init_142 (rk_sR (rk_qz (rk_sR (rk_qz (rk_sR (rk_qz (rk_sR (rk_qz (rk_sR (rk_qz (rk_sR (rk_qz (rk_sR (rk_qz (hL))))))))))))))) h
def FX13_init_86 (L : Nat → Nat → Option Nat) : Nat → Nat → Option Nat := FX13_init_114 (lset (lzer (lset (lzer (lset (lzer (lset (lzer (lset (lzer (lset (lzer (lset (lzer (L) 113) 98 22 (some 113)) 114) 98 23 (some 114)) 115) 98 24 (some 115)) 116) 98 25 (some 116)) 117) 98 26 (some 117)) 118) 98 27 (some 118)) 119) 98 28 (some 119))
theorem pX13_init_86 {m : qM} {L : Nat → Nat → Option Nat} {r : Unit × qM} (hL : RLk m L) (h : fX13_init_86 m = some r) : RLk r.2 (FX13_init_86 L) := by
  unfold fX13_init_86 at h
  unfold FX13_init_86
  replace h := cnd_t h
  replace h := cnd_f h
  replace h := cnd_t h
  replace h := cnd_f h
  replace h := cnd_t h
  replace h := cnd_f h
  replace h := cnd_t h
  replace h := cnd_f h
  replace h := cnd_t h
  replace h := cnd_f h
  replace h := cnd_t h
  replace h := cnd_f h
  replace h := cnd_t h
  replace h := cnd_f h
  exact pX13_init_114 (rk_sR (rk_qz (rk_sR (rk_qz (rk_sR (rk_qz (rk_sR (rk_qz (rk_sR (rk_qz (rk_sR (rk_qz (rk_sR (rk_qz (hL))))))))))))))) h
def FX13_init_58 (L : Nat → Nat → Option Nat) : Nat → Nat → Option Nat := FX13_init_86 (lset (lzer (lset (lzer (lset (lzer (lset (FX12_init (lzer (lset (lzer (lset (lzer (L) 107) 98 8 (some 107)) 108) 98 9 (some 108)) 109)) 98 10 (some 109)) 110) 98 11 (some 110)) 111) 98 20 (some 111)) 112) 98 21 (some 112))
theorem pX13_init_58 {m : qM} {L : Nat → Nat → Option Nat} {r : Unit × qM} (hL : RLk m L) (h : fX13_init_58 m = some r) : RLk r.2 (FX13_init_58 L) := by
  unfold fX13_init_58 at h
  unfold FX13_init_58
  replace h := cnd_t h
  replace h := cnd_f h
  replace h := cnd_t h
  replace h := cnd_f h
  obtain ⟨u28, m28, e28, h⟩ := qbV_x h
  have r28 := pX12_init (rk_qz (rk_sR (rk_qz (rk_sR (rk_qz (hL)))))) e28
  replace h := cnd_t h
  replace h := cnd_f h
  replace h := cnd_t h
  replace h := cnd_f h
  replace h := cnd_t h
  replace h := cnd_f h
  exact pX13_init_86 (rk_sR (rk_qz (rk_sR (rk_qz (rk_sI (rk_sR (rk_qz (rk_sR (r28))))))))) h
def FX13_init_30 (L : Nat → Nat → Option Nat) : Nat → Nat → Option Nat := FX13_init_58 (lset (lzer (lset (lzer (lset (lzer (lset (lzer (lset (lzer (lset (lzer (lset (lzer (L) 100) 98 1 (some 100)) 101) 98 2 (some 101)) 102) 98 3 (some 102)) 103) 98 4 (some 103)) 104) 98 5 (some 104)) 105) 98 6 (some 105)) 106) 98 7 (some 106))
theorem pX13_init_30 {m : qM} {L : Nat → Nat → Option Nat} {r : Unit × qM} (hL : RLk m L) (h : fX13_init_30 m = some r) : RLk r.2 (FX13_init_30 L) := by
  unfold fX13_init_30 at h
  unfold FX13_init_30
  replace h := cnd_t h
  replace h := cnd_f h
  replace h := cnd_t h
  replace h := cnd_f h
  replace h := cnd_t h
  replace h := cnd_f h
  replace h := cnd_t h
  replace h := cnd_f h
  replace h := cnd_t h
  replace h := cnd_f h
  replace h := cnd_t h
  replace h := cnd_f h
  replace h := cnd_t h
  replace h := cnd_f h
  exact pX13_init_58 (rk_sR (rk_qz (rk_sR (rk_qz (rk_sR (rk_qz (rk_sR (rk_qz (rk_sR (rk_qz (rk_sR (rk_qz (rk_sR (rk_qz (hL))))))))))))))) h
def FX13_init (L : Nat → Nat → Option Nat) : Nat → Nat → Option Nat := FX13_init_30 (lset (lzer (L) 99) 98 0 (some 99))
theorem pX13_init {m : qM} {L : Nat → Nat → Option Nat} {r : Unit × qM} (hL : RLk m L) (h : fX13_init m = some r) : RLk r.2 (FX13_init L) := by
  rw [fX13_init_d] at h
  replace h : fX13_init_0 m = some r := h
  unfold fX13_init_0 at h
  unfold FX13_init
  replace h := cnd_t h
  replace h := cnd_f h
  replace h := cnd_t h
  replace h := cnd_t h
  replace h := cnd_t h
  replace h := cnd_t h
  replace h := cnd_t h
  replace h := cnd_t h
  exact pX13_init_30 (rk_sR (rk_sI (rk_sI (rk_sI (rk_sI (rk_sI (rk_sI (rk_qz (hL))))))))) h
/-- what both constructors leave, out of a world without references -/
def FAll : Nat → Nat → Option Nat := FX13_init (lzer (FX11_init (lzer (fun _ _ => none) 0)) 98)
def lkD : List (Nat × Nat × Nat) := [(0, 0, 1), (0, 1, 3), (0, 2, 4), (0, 3, 7), (0, 4, 47), (0, 5, 58), (0, 6, 68), (0, 7, 74), (0, 8, 80), (0, 9, 93), (1, 0, 2), (3, 0, 1), (4, 0, 5), (4, 1, 6), (7, 0, 8), (7, 2, 16), (7, 3, 17), (7, 4, 18), (9, 0, 10), (9, 1, 11), (9, 2, 12), (9, 3, 13), (9, 4, 14), (9, 5, 15), (19, 0, 20), (19, 1, 21), (19, 2, 22), (19, 3, 23), (19, 4, 24), (19, 5, 25), (26, 0, 27), (26, 1, 28), (26, 2, 29), (26, 3, 30), (26, 4, 31), (26, 5, 32), (33, 0, 34), (33, 1, 35), (33, 2, 36), (33, 3, 37), (33, 4, 38), (33, 5, 39), (40, 0, 41), (40, 1, 42), (40, 2, 43), (40, 3, 44), (40, 4, 45), (40, 5, 46), (47, 0, 4), (47, 1, 48), (47, 2, 49), (47, 3, 50), (47, 4, 51), (47, 5, 52), (47, 6, 53), (47, 7, 54), (47, 8, 55), (47, 9, 56), (47, 10, 57), (58, 0, 4), (58, 1, 47), (58, 2, 59), (58, 3, 60), (58, 4, 61), (58, 5, 62), (58, 6, 63), (58, 7, 64), (58, 8, 65), (58, 9, 66), (58, 10, 67), (68, 0, 47), (68, 1, 58), (68, 2, 69), (68, 3, 70), (68, 4, 71), (68, 5, 72), (68, 6, 73), (74, 0, 75), (74, 1, 76), (74, 2, 77), (74, 3, 78), (74, 4, 79), (80, 0, 4), (80, 1, 7), (80, 2, 47), (80, 3, 58), (80, 4, 74), (80, 5, 81), (80, 6, 82), (80, 7, 83), (80, 10, 84), (80, 11, 85), (80, 12, 86), (80, 13, 87), (80, 14, 88), (80, 15, 89), (80, 16, 90), (80, 17, 91), (80, 18, 92), (93, 0, 58), (93, 1, 94), (93, 2, 95), (93, 3, 96), (93, 4, 97), (98, 0, 99), (98, 1, 100), (98, 2, 101), (98, 3, 102), (98, 4, 103), (98, 5, 104), (98, 6, 105), (98, 7, 106), (98, 8, 107), (98, 9, 108), (98, 10, 109), (98, 11, 110), (98, 20, 111), (98, 21, 112), (98, 22, 113), (98, 23, 114), (98, 24, 115), (98, 25, 116), (98, 26, 117), (98, 27, 118), (98, 28, 119), (98, 29, 120), (98, 30, 121), (98, 31, 122), (98, 34, 123), (98, 35, 124), (98, 36, 125), (98, 37, 126), (98, 38, 127), (98, 39, 128), (98, 40, 129), (98, 41, 130), (98, 42, 131), (98, 50, 132), (98, 51, 133), (98, 53, 134), (98, 54, 135), (98, 55, 136), (98, 56, 137), (98, 57, 138), (98, 58, 139), (98, 59, 140), (98, 60, 141), (98, 61, 142), (98, 62, 143), (98, 63, 144), (98, 64, 145), (98, 65, 146), (98, 66, 147), (98, 67, 148), (98, 68, 149), (98, 69, 150), (98, 71, 151), (98, 72, 152), (98, 73, 153), (98, 74, 154)]
theorem lkD_all : ∀ p ∈ lkD, (¬ p.1 = 8 ∧ ¬ p.1 = 109) ∧ FAll p.1 p.2.1 = some p.2.2 := by decide +kernel
theorem qfin_D : ∀ c, c < 155 → ∀ k, k < 76 → (qfin c k = none ∨ ∃ p ∈ lkD, p.1 = c ∧ p.2.1 = k ∧ qfin c k = some p.2.2) := by decide +kernel
