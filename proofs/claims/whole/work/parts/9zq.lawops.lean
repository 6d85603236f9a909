/-! each case of the law: both answer alike, and the law goes on (by program) -/
theorem lw_qbI {ρ : Type} (x : Int32) (m : qM) (k : Int32 → qM → Option ρ) : qbI (some (x, m)) k = k x m := rfl
theorem eqb_rf (x : Int32) : eqb x x = true := by
  rw [eqb_d]
  exact decide_eq_true rfl
theorem bif_ex {ρ : Type} {b : Bool} {x y : Option ρ} (h1 : ∃ r, x = some r) (h2 : ∃ r, y = some r) : ∃ r, (bif b then x else y) = some r := by
  cases b
  · exact h2
  · exact h1
theorem zi_b0 : (0 : Int32) = Zi (bI false) := rfl
theorem zi_b1 : (1 : Int32) = Zi (bI true) := rfl
section
variable {nA : Nat} {fA : Nat → Int32} {k10 : Int32 → qM → Option (Unit × qM)} {a3 : Int32} {m : qM}
theorem qa_feed {m : qM} (h : RAll m) (v1 : Int32) (v2 : Int32) (v3 : Int32) (v4 : Int32) (v5 : Int32) : QAll m (fX11_feed v1 v2 v3 v4 v5) (fX13_feed v1 v2 v3 v4 v5) := by
  exact QOp.all h (op_feed _ h.1 v1 v2 v3 v4 v5)
theorem la_22 (hR : RAll m) (h1 : inb (a3 + (1 : Int32)) nA = true) (h2 : inb (a3 + (2 : Int32)) nA = true) (h3 : inb (a3 + (3 : Int32)) nA = true) (h4 : inb (a3 + (4 : Int32)) nA = true) (h5 : inb (a3 + (5 : Int32)) nA = true) (hk : ∀ m', RAll m' → ∃ r, k10 (a3 + (6 : Int32)) m' = some r) : ∃ r, fL_law_22 nA fA k10 a3 m = some r := by
  obtain ⟨x, m1, m2, e1, e2, e3⟩ := qa_feed hR (fA (ix (a3 + (1 : Int32)))) (fA (ix (a3 + (2 : Int32)))) (fA (ix (a3 + (3 : Int32)))) (fA (ix (a3 + (4 : Int32)))) (fA (ix (a3 + (5 : Int32))))
  obtain ⟨r, e4⟩ := hk m2 e3
  exact ⟨r, by simp only [fL_law_22, h1, h2, h3, h4, h5, cond_true, e1, e2, lw_qbI, eqb_rf, fL_law_1111, e4]⟩
theorem qa_end {m : qM} (h : RAll m) (v1 : Int32) : QAll m (fX11_end v1) (fX13_end v1) := by
  obtain ⟨z1, b1, e1⟩ := Zi_of v1
  subst e1
  exact QOp.all h (op_end _ h.1 z1 b1)
theorem la_79 (hR : RAll m) (h1 : inb (a3 + (1 : Int32)) nA = true) (hk : ∀ m', RAll m' → ∃ r, k10 (a3 + (6 : Int32)) m' = some r) : ∃ r, fL_law_79 nA fA k10 a3 m = some r := by
  obtain ⟨x, m1, m2, e1, e2, e3⟩ := qa_end hR (fA (ix (a3 + (1 : Int32))))
  obtain ⟨r, e4⟩ := hk m2 e3
  exact ⟨r, by simp only [fL_law_79, h1, cond_true, e1, e2, lw_qbI, eqb_rf, fL_law_1111, e4]⟩
theorem qa_rules {m : qM} (h : RAll m)  : QAll m (fX11_rules) (fX13_rules) := by
  exact QOp.all h (op_rules _ h.1)
theorem la_96 (hR : RAll m)  (hk : ∀ m', RAll m' → ∃ r, k10 (a3 + (6 : Int32)) m' = some r) : ∃ r, fL_law_96 nA fA k10 a3 m = some r := by
  obtain ⟨x, m1, m2, e1, e2, e3⟩ := qa_rules hR 
  obtain ⟨r, e4⟩ := hk m2 e3
  exact ⟨r, by simp only [fL_law_96, cond_true, e1, e2, lw_qbI, eqb_rf, fL_law_1111, e4]⟩
theorem qa_rule {m : qM} (h : RAll m) (v1 : Int32) : QAll m (fX11_rule v1) (fX13_rule v1) := by
  obtain ⟨z1, b1, e1⟩ := Zi_of v1
  subst e1
  exact QOp.all h (op_rule _ h.1 z1 b1)
theorem la_103 (hR : RAll m) (h1 : inb (a3 + (1 : Int32)) nA = true) (hk : ∀ m', RAll m' → ∃ r, k10 (a3 + (6 : Int32)) m' = some r) : ∃ r, fL_law_103 nA fA k10 a3 m = some r := by
  obtain ⟨x, m1, m2, e1, e2, e3⟩ := qa_rule hR (fA (ix (a3 + (1 : Int32))))
  obtain ⟨r, e4⟩ := hk m2 e3
  exact ⟨r, by simp only [fL_law_103, h1, cond_true, e1, e2, lw_qbI, eqb_rf, fL_law_1111, e4]⟩
theorem qa_policy {m : qM} (h : RAll m) (v1 : Int32) : QAll m (fX11_policy v1) (fX13_policy v1) := by
  obtain ⟨z1, b1, e1⟩ := Zi_of v1
  subst e1
  exact QOp.all h (op_policy _ h.1 z1 b1)
theorem la_120 (hR : RAll m) (h1 : inb (a3 + (1 : Int32)) nA = true) (hk : ∀ m', RAll m' → ∃ r, k10 (a3 + (6 : Int32)) m' = some r) : ∃ r, fL_law_120 nA fA k10 a3 m = some r := by
  obtain ⟨x, m1, m2, e1, e2, e3⟩ := qa_policy hR (fA (ix (a3 + (1 : Int32))))
  obtain ⟨r, e4⟩ := hk m2 e3
  exact ⟨r, by simp only [fL_law_120, h1, cond_true, e1, e2, lw_qbI, eqb_rf, fL_law_1111, e4]⟩
theorem qa_follow {m : qM} (h : RAll m) (v1 : Int32) (v2 : Int32) : QAll m (fX11_follow v1 v2) (fX13_follow v1 v2) := by
  obtain ⟨z1, b1, e1⟩ := Zi_of v1
  subst e1
  obtain ⟨z2, b2, e2⟩ := Zi_of v2
  subst e2
  exact QOp.all h (op_follow _ h.1 z1 z2 b1 b2)
theorem la_137 (hR : RAll m) (h1 : inb (a3 + (1 : Int32)) nA = true) (h2 : inb (a3 + (2 : Int32)) nA = true) (hk : ∀ m', RAll m' → ∃ r, k10 (a3 + (6 : Int32)) m' = some r) : ∃ r, fL_law_137 nA fA k10 a3 m = some r := by
  obtain ⟨x, m1, m2, e1, e2, e3⟩ := qa_follow hR (fA (ix (a3 + (1 : Int32)))) (fA (ix (a3 + (2 : Int32))))
  obtain ⟨r, e4⟩ := hk m2 e3
  exact ⟨r, by simp only [fL_law_137, h1, h2, cond_true, e1, e2, lw_qbI, eqb_rf, fL_law_1111, e4]⟩
theorem qa_fault {m : qM} (h : RAll m) (v1 : Int32) : QAll m (fX11_fault v1) (fX13_fault v1) := by
  obtain ⟨z1, b1, e1⟩ := Zi_of v1
  subst e1
  exact QOp.all h (op_fault _ h.1 z1 b1)
theorem la_164 (hR : RAll m) (h1 : inb (a3 + (1 : Int32)) nA = true) (hk : ∀ m', RAll m' → ∃ r, k10 (a3 + (6 : Int32)) m' = some r) : ∃ r, fL_law_164 nA fA k10 a3 m = some r := by
  obtain ⟨x, m1, m2, e1, e2, e3⟩ := qa_fault hR (fA (ix (a3 + (1 : Int32))))
  obtain ⟨r, e4⟩ := hk m2 e3
  exact ⟨r, by simp only [fL_law_164, h1, cond_true, e1, e2, lw_qbI, eqb_rf, fL_law_1111, e4]⟩
theorem qa_room {m : qM} (h : RAll m) (v1 : Int32) (v2 : Int32) (v3 : Int32) : QAll m (fX11_room v1 v2 v3) (fX13_room v1 v2 v3) := by
  obtain ⟨z1, b1, e1⟩ := Zi_of v1
  subst e1
  obtain ⟨z2, b2, e2⟩ := Zi_of v2
  subst e2
  obtain ⟨z3, b3, e3⟩ := Zi_of v3
  subst e3
  exact QOp.all h (op_room _ h.1 z1 z2 z3 b1 b2 b3)
theorem la_181 (hR : RAll m) (h1 : inb (a3 + (1 : Int32)) nA = true) (h2 : inb (a3 + (2 : Int32)) nA = true) (h3 : inb (a3 + (3 : Int32)) nA = true) (hk : ∀ m', RAll m' → ∃ r, k10 (a3 + (6 : Int32)) m' = some r) : ∃ r, fL_law_181 nA fA k10 a3 m = some r := by
  obtain ⟨x, m1, m2, e1, e2, e3⟩ := qa_room hR (fA (ix (a3 + (1 : Int32)))) (fA (ix (a3 + (2 : Int32)))) (fA (ix (a3 + (3 : Int32))))
  obtain ⟨r, e4⟩ := hk m2 e3
  exact ⟨r, by simp only [fL_law_181, h1, h2, h3, cond_true, e1, e2, lw_qbI, eqb_rf, fL_law_1111, e4]⟩
theorem qa_teacher {m : qM} (h : RAll m) (v1 : Int32) (v2 : Int32) (v3 : Int32) : QAll m (fX11_teacher v1 v2 v3) (fX13_teacher v1 v2 v3) := by
  obtain ⟨z1, b1, e1⟩ := Zi_of v1
  subst e1
  obtain ⟨z2, b2, e2⟩ := Zi_of v2
  subst e2
  obtain ⟨z3, b3, e3⟩ := Zi_of v3
  subst e3
  exact QOp.all h (op_teacher _ h.1 z1 z2 z3 b1 b2 b3)
theorem la_218 (hR : RAll m) (h1 : inb (a3 + (1 : Int32)) nA = true) (h2 : inb (a3 + (2 : Int32)) nA = true) (h3 : inb (a3 + (3 : Int32)) nA = true) (hk : ∀ m', RAll m' → ∃ r, k10 (a3 + (6 : Int32)) m' = some r) : ∃ r, fL_law_218 nA fA k10 a3 m = some r := by
  obtain ⟨x, m1, m2, e1, e2, e3⟩ := qa_teacher hR (fA (ix (a3 + (1 : Int32)))) (fA (ix (a3 + (2 : Int32)))) (fA (ix (a3 + (3 : Int32))))
  obtain ⟨r, e4⟩ := hk m2 e3
  exact ⟨r, by simp only [fL_law_218, h1, h2, h3, cond_true, e1, e2, lw_qbI, eqb_rf, fL_law_1111, e4]⟩
theorem qa_family {m : qM} (h : RAll m) (v1 : Int32) (v2 : Int32) (v3 : Int32) (v4 : Int32) : QAll m (fX11_family v1 v2 v3 v4) (fX13_family v1 v2 v3 v4) := by
  obtain ⟨z1, b1, e1⟩ := Zi_of v1
  subst e1
  obtain ⟨z2, b2, e2⟩ := Zi_of v2
  subst e2
  obtain ⟨z3, b3, e3⟩ := Zi_of v3
  subst e3
  obtain ⟨z4, b4, e4⟩ := Zi_of v4
  subst e4
  exact QOp.all h (op_family _ h.1 z1 z2 z3 z4 b1 b2 b3 b4)
theorem la_255 (hR : RAll m) (h1 : inb (a3 + (1 : Int32)) nA = true) (h2 : inb (a3 + (2 : Int32)) nA = true) (h3 : inb (a3 + (3 : Int32)) nA = true) (h4 : inb (a3 + (4 : Int32)) nA = true) (hk : ∀ m', RAll m' → ∃ r, k10 (a3 + (6 : Int32)) m' = some r) : ∃ r, fL_law_255 nA fA k10 a3 m = some r := by
  obtain ⟨x, m1, m2, e1, e2, e3⟩ := qa_family hR (fA (ix (a3 + (1 : Int32)))) (fA (ix (a3 + (2 : Int32)))) (fA (ix (a3 + (3 : Int32)))) (fA (ix (a3 + (4 : Int32))))
  obtain ⟨r, e4⟩ := hk m2 e3
  exact ⟨r, by simp only [fL_law_255, h1, h2, h3, h4, cond_true, e1, e2, lw_qbI, eqb_rf, fL_law_1111, e4]⟩
theorem qa_wish {m : qM} (h : RAll m) (v1 : Int32) (v2 : Int32) (v3 : Int32) (v4 : Int32) : QAll m (fX11_wish v1 v2 v3 v4) (fX13_wish v1 v2 v3 v4) := by
  obtain ⟨z1, b1, e1⟩ := Zi_of v1
  subst e1
  obtain ⟨z2, b2, e2⟩ := Zi_of v2
  subst e2
  obtain ⟨z3, b3, e3⟩ := Zi_of v3
  subst e3
  obtain ⟨z4, b4, e4⟩ := Zi_of v4
  subst e4
  exact QOp.all h (op_wish _ h.1 z1 z2 z3 z4 b1 b2 b3 b4)
theorem la_302 (hR : RAll m) (h1 : inb (a3 + (1 : Int32)) nA = true) (h2 : inb (a3 + (2 : Int32)) nA = true) (h3 : inb (a3 + (3 : Int32)) nA = true) (h4 : inb (a3 + (4 : Int32)) nA = true) (hk : ∀ m', RAll m' → ∃ r, k10 (a3 + (6 : Int32)) m' = some r) : ∃ r, fL_law_302 nA fA k10 a3 m = some r := by
  obtain ⟨x, m1, m2, e1, e2, e3⟩ := qa_wish hR (fA (ix (a3 + (1 : Int32)))) (fA (ix (a3 + (2 : Int32)))) (fA (ix (a3 + (3 : Int32)))) (fA (ix (a3 + (4 : Int32))))
  obtain ⟨r, e4⟩ := hk m2 e3
  exact ⟨r, by simp only [fL_law_302, h1, h2, h3, h4, cond_true, e1, e2, lw_qbI, eqb_rf, fL_law_1111, e4]⟩
theorem qa_apart {m : qM} (h : RAll m) (v1 : Int32) (v2 : Int32) (is : Bool) : QAll m (fX11_apart v1 v2 (Zi (bI is))) (fX13_apart v1 v2 (Zi (bI is))) := by
  obtain ⟨z1, b1, e1⟩ := Zi_of v1
  subst e1
  obtain ⟨z2, b2, e2⟩ := Zi_of v2
  subst e2
  exact QOp.all h (op_apart _ h.1 z1 z2 is b1 b2)
theorem la_349 (hR : RAll m) (h1 : inb (a3 + (1 : Int32)) nA = true) (h2 : inb (a3 + (2 : Int32)) nA = true) (h3 : inb (a3 + (3 : Int32)) nA = true) (hk : ∀ m', RAll m' → ∃ r, k10 (a3 + (6 : Int32)) m' = some r) : ∃ r, fL_law_349 nA fA k10 a3 m = some r := by
  cases hb : eqb (fA (ix (a3 + (3 : Int32)))) (0 : Int32)
  · obtain ⟨x, m1, m2, e1, e2, e3⟩ := qa_apart hR (fA (ix (a3 + (1 : Int32)))) (fA (ix (a3 + (2 : Int32)))) true
    obtain ⟨r, e4⟩ := hk m2 e3
    rw [← zi_b1] at e1 e2
    exact ⟨r, by simp only [fL_law_349, fL_law_369, fL_law_390, h1, h2, h3, hb, cond_true, cond_false, e1, e2, lw_qbI, eqb_rf, fL_law_1111, e4]⟩
  · obtain ⟨x, m1, m2, e1, e2, e3⟩ := qa_apart hR (fA (ix (a3 + (1 : Int32)))) (fA (ix (a3 + (2 : Int32)))) false
    obtain ⟨r, e4⟩ := hk m2 e3
    rw [← zi_b0] at e1 e2
    exact ⟨r, by simp only [fL_law_349, fL_law_369, fL_law_390, h1, h2, h3, hb, cond_true, cond_false, e1, e2, lw_qbI, eqb_rf, fL_law_1111, e4]⟩
theorem qa_walk {m : qM} (h : RAll m) (v1 : Int32) (v2 : Int32) : QAll m (fX11_walk v1 v2) (fX13_walk v1 v2) := by
  obtain ⟨z1, b1, e1⟩ := Zi_of v1
  subst e1
  obtain ⟨z2, b2, e2⟩ := Zi_of v2
  subst e2
  exact QOp.all h (op_walk _ h.1 z1 z2 b1 b2)
theorem la_394 (hR : RAll m) (h1 : inb (a3 + (1 : Int32)) nA = true) (h2 : inb (a3 + (2 : Int32)) nA = true) (hk : ∀ m', RAll m' → ∃ r, k10 (a3 + (6 : Int32)) m' = some r) : ∃ r, fL_law_394 nA fA k10 a3 m = some r := by
  obtain ⟨x, m1, m2, e1, e2, e3⟩ := qa_walk hR (fA (ix (a3 + (1 : Int32)))) (fA (ix (a3 + (2 : Int32))))
  obtain ⟨r, e4⟩ := hk m2 e3
  exact ⟨r, by simp only [fL_law_394, h1, h2, cond_true, e1, e2, lw_qbI, eqb_rf, fL_law_1111, e4]⟩
theorem qa_ask {m : qM} (h : RAll m) (v1 : Int32) (v2 : Int32) (is : Bool) : QAll m (fX11_ask v1 v2 (Zi (bI is))) (fX13_ask v1 v2 (Zi (bI is))) := by
  obtain ⟨z1, b1, e1⟩ := Zi_of v1
  subst e1
  obtain ⟨z2, b2, e2⟩ := Zi_of v2
  subst e2
  exact QOp.all h (op_ask _ h.1 z1 z2 is b1 b2)
theorem la_421 (hR : RAll m) (h1 : inb (a3 + (1 : Int32)) nA = true) (h2 : inb (a3 + (2 : Int32)) nA = true) (h3 : inb (a3 + (3 : Int32)) nA = true) (hk : ∀ m', RAll m' → ∃ r, k10 (a3 + (6 : Int32)) m' = some r) : ∃ r, fL_law_421 nA fA k10 a3 m = some r := by
  cases hb : eqb (fA (ix (a3 + (3 : Int32)))) (0 : Int32)
  · obtain ⟨x, m1, m2, e1, e2, e3⟩ := qa_ask hR (fA (ix (a3 + (1 : Int32)))) (fA (ix (a3 + (2 : Int32)))) true
    obtain ⟨r, e4⟩ := hk m2 e3
    rw [← zi_b1] at e1 e2
    exact ⟨r, by simp only [fL_law_421, fL_law_441, fL_law_462, h1, h2, h3, hb, cond_true, cond_false, e1, e2, lw_qbI, eqb_rf, fL_law_1111, e4]⟩
  · obtain ⟨x, m1, m2, e1, e2, e3⟩ := qa_ask hR (fA (ix (a3 + (1 : Int32)))) (fA (ix (a3 + (2 : Int32)))) false
    obtain ⟨r, e4⟩ := hk m2 e3
    rw [← zi_b0] at e1 e2
    exact ⟨r, by simp only [fL_law_421, fL_law_441, fL_law_462, h1, h2, h3, hb, cond_true, cond_false, e1, e2, lw_qbI, eqb_rf, fL_law_1111, e4]⟩
theorem qa_may {m : qM} (h : RAll m) (v1 : Int32) (v2 : Int32) : QAll m (fX11_may v1 v2) (fX13_may v1 v2) := by
  obtain ⟨z1, b1, e1⟩ := Zi_of v1
  subst e1
  obtain ⟨z2, b2, e2⟩ := Zi_of v2
  subst e2
  exact QOp.all h (op_may _ h.1 z1 z2 b1 b2)
theorem la_466 (hR : RAll m) (h1 : inb (a3 + (1 : Int32)) nA = true) (h2 : inb (a3 + (2 : Int32)) nA = true) (hk : ∀ m', RAll m' → ∃ r, k10 (a3 + (6 : Int32)) m' = some r) : ∃ r, fL_law_466 nA fA k10 a3 m = some r := by
  obtain ⟨x, m1, m2, e1, e2, e3⟩ := qa_may hR (fA (ix (a3 + (1 : Int32)))) (fA (ix (a3 + (2 : Int32))))
  obtain ⟨r, e4⟩ := hk m2 e3
  exact ⟨r, by simp only [fL_law_466, h1, h2, cond_true, e1, e2, lw_qbI, eqb_rf, fL_law_1111, e4]⟩
theorem qa_lay {m : qM} (h : RAll m) (v1 : Int32) (v2 : Int32) : QAll m (fX11_lay v1 v2) (fX13_lay_ v1 v2) := by
  obtain ⟨z1, b1, e1⟩ := Zi_of v1
  subst e1
  obtain ⟨z2, b2, e2⟩ := Zi_of v2
  subst e2
  exact QOp.all h (op_lay _ h.1 z1 z2 b1 b2)
theorem la_493 (hR : RAll m) (h1 : inb (a3 + (1 : Int32)) nA = true) (h2 : inb (a3 + (2 : Int32)) nA = true) (hk : ∀ m', RAll m' → ∃ r, k10 (a3 + (6 : Int32)) m' = some r) : ∃ r, fL_law_493 nA fA k10 a3 m = some r := by
  obtain ⟨x, m1, m2, e1, e2, e3⟩ := qa_lay hR (fA (ix (a3 + (1 : Int32)))) (fA (ix (a3 + (2 : Int32))))
  obtain ⟨r, e4⟩ := hk m2 e3
  exact ⟨r, by simp only [fL_law_493, h1, h2, cond_true, e1, e2, lw_qbI, eqb_rf, fL_law_1111, e4]⟩
theorem qa_lift {m : qM} (h : RAll m) (v1 : Int32) : QAll m (fX11_lift v1) (fX13_lift v1) := by
  obtain ⟨z1, b1, e1⟩ := Zi_of v1
  subst e1
  exact QOp.all h (op_lift _ h.1 z1 b1)
theorem la_520 (hR : RAll m) (h1 : inb (a3 + (1 : Int32)) nA = true) (hk : ∀ m', RAll m' → ∃ r, k10 (a3 + (6 : Int32)) m' = some r) : ∃ r, fL_law_520 nA fA k10 a3 m = some r := by
  obtain ⟨x, m1, m2, e1, e2, e3⟩ := qa_lift hR (fA (ix (a3 + (1 : Int32))))
  obtain ⟨r, e4⟩ := hk m2 e3
  exact ⟨r, by simp only [fL_law_520, h1, cond_true, e1, e2, lw_qbI, eqb_rf, fL_law_1111, e4]⟩
theorem qa_layAll {m : qM} (h : RAll m)  : QAll m (fX11_layAll) (fX13_layAll) := by
  exact QOp.all h (op_layAll _ h.1)
theorem la_537 (hR : RAll m)  (hk : ∀ m', RAll m' → ∃ r, k10 (a3 + (6 : Int32)) m' = some r) : ∃ r, fL_law_537 nA fA k10 a3 m = some r := by
  obtain ⟨x, m1, m2, e1, e2, e3⟩ := qa_layAll hR 
  obtain ⟨r, e4⟩ := hk m2 e3
  exact ⟨r, by simp only [fL_law_537, cond_true, e1, e2, lw_qbI, eqb_rf, fL_law_1111, e4]⟩
theorem qa_best {m : qM} (h : RAll m) (v1 : Int32) : QAll m (fX11_best v1) (fX13_best v1) := by
  obtain ⟨z1, b1, e1⟩ := Zi_of v1
  subst e1
  exact QOp.all h (op_best _ h.1 z1 b1)
theorem la_544 (hR : RAll m) (h1 : inb (a3 + (1 : Int32)) nA = true) (hk : ∀ m', RAll m' → ∃ r, k10 (a3 + (6 : Int32)) m' = some r) : ∃ r, fL_law_544 nA fA k10 a3 m = some r := by
  obtain ⟨x, m1, m2, e1, e2, e3⟩ := qa_best hR (fA (ix (a3 + (1 : Int32))))
  obtain ⟨r, e4⟩ := hk m2 e3
  exact ⟨r, by simp only [fL_law_544, h1, cond_true, e1, e2, lw_qbI, eqb_rf, fL_law_1111, e4]⟩
theorem qa_settle {m : qM} (h : RAll m)  : QAll m (fX11_settle) (fX13_settle) := by
  exact QOp.all h (op_settle _ h.1)
theorem la_561 (hR : RAll m)  (hk : ∀ m', RAll m' → ∃ r, k10 (a3 + (6 : Int32)) m' = some r) : ∃ r, fL_law_561 nA fA k10 a3 m = some r := by
  obtain ⟨x, m1, m2, e1, e2, e3⟩ := qa_settle hR 
  obtain ⟨r, e4⟩ := hk m2 e3
  exact ⟨r, by simp only [fL_law_561, cond_true, e1, e2, lw_qbI, eqb_rf, fL_law_1111, e4]⟩
theorem qa_about {m : qM} (h : RAll m) (v1 : Int32) (v2 : Int32) : QAll m (fX11_about v1 v2) (fX13_about v1 v2) := by
  obtain ⟨z1, b1, e1⟩ := Zi_of v1
  subst e1
  obtain ⟨z2, b2, e2⟩ := Zi_of v2
  subst e2
  exact QOp.all h (op_about _ h.1 z1 z2 b1 b2)
theorem la_568 (hR : RAll m) (h1 : inb (a3 + (1 : Int32)) nA = true) (h2 : inb (a3 + (2 : Int32)) nA = true) (hk : ∀ m', RAll m' → ∃ r, k10 (a3 + (6 : Int32)) m' = some r) : ∃ r, fL_law_568 nA fA k10 a3 m = some r := by
  obtain ⟨x, m1, m2, e1, e2, e3⟩ := qa_about hR (fA (ix (a3 + (1 : Int32)))) (fA (ix (a3 + (2 : Int32))))
  obtain ⟨r, e4⟩ := hk m2 e3
  exact ⟨r, by simp only [fL_law_568, h1, h2, cond_true, e1, e2, lw_qbI, eqb_rf, fL_law_1111, e4]⟩
theorem qa_waits {m : qM} (h : RAll m) (v1 : Int32) : QAll m (fX11_waits v1) (fX13_waits v1) := by
  obtain ⟨z1, b1, e1⟩ := Zi_of v1
  subst e1
  exact QOp.all h (op_waits _ h.1 z1 b1)
theorem la_595 (hR : RAll m) (h1 : inb (a3 + (1 : Int32)) nA = true) (hk : ∀ m', RAll m' → ∃ r, k10 (a3 + (6 : Int32)) m' = some r) : ∃ r, fL_law_595 nA fA k10 a3 m = some r := by
  obtain ⟨x, m1, m2, e1, e2, e3⟩ := qa_waits hR (fA (ix (a3 + (1 : Int32))))
  obtain ⟨r, e4⟩ := hk m2 e3
  exact ⟨r, by simp only [fL_law_595, h1, cond_true, e1, e2, lw_qbI, eqb_rf, fL_law_1111, e4]⟩
theorem qa_value {m : qM} (h : RAll m) (v1 : Int32) : QAll m (fX11_value v1) (fX13_value v1) := by
  obtain ⟨z1, b1, e1⟩ := Zi_of v1
  subst e1
  exact QOp.all h (op_value _ h.1 z1 b1)
theorem la_612 (hR : RAll m) (h1 : inb (a3 + (1 : Int32)) nA = true) (hk : ∀ m', RAll m' → ∃ r, k10 (a3 + (6 : Int32)) m' = some r) : ∃ r, fL_law_612 nA fA k10 a3 m = some r := by
  obtain ⟨x, m1, m2, e1, e2, e3⟩ := qa_value hR (fA (ix (a3 + (1 : Int32))))
  obtain ⟨r, e4⟩ := hk m2 e3
  exact ⟨r, by simp only [fL_law_612, h1, cond_true, e1, e2, lw_qbI, eqb_rf, fL_law_1111, e4]⟩
theorem qa_habit {m : qM} (h : RAll m) (v1 : Int32) (v2 : Int32) : QAll m (fX11_habit v1 v2) (fX13_habit v1 v2) := by
  obtain ⟨z1, b1, e1⟩ := Zi_of v1
  subst e1
  obtain ⟨z2, b2, e2⟩ := Zi_of v2
  subst e2
  exact QOp.all h (op_habit _ h.1 z1 z2 b1 b2)
theorem la_629 (hR : RAll m) (h1 : inb (a3 + (1 : Int32)) nA = true) (h2 : inb (a3 + (2 : Int32)) nA = true) (hk : ∀ m', RAll m' → ∃ r, k10 (a3 + (6 : Int32)) m' = some r) : ∃ r, fL_law_629 nA fA k10 a3 m = some r := by
  obtain ⟨x, m1, m2, e1, e2, e3⟩ := qa_habit hR (fA (ix (a3 + (1 : Int32)))) (fA (ix (a3 + (2 : Int32))))
  obtain ⟨r, e4⟩ := hk m2 e3
  exact ⟨r, by simp only [fL_law_629, h1, h2, cond_true, e1, e2, lw_qbI, eqb_rf, fL_law_1111, e4]⟩
theorem qa_foretold {m : qM} (h : RAll m) (v1 : Int32) : QAll m (fX11_foretold v1) (fX13_foretold v1) := by
  obtain ⟨z1, b1, e1⟩ := Zi_of v1
  subst e1
  exact QOp.all h (op_foretold _ h.1 z1 b1)
theorem la_656 (hR : RAll m) (h1 : inb (a3 + (1 : Int32)) nA = true) (hk : ∀ m', RAll m' → ∃ r, k10 (a3 + (6 : Int32)) m' = some r) : ∃ r, fL_law_656 nA fA k10 a3 m = some r := by
  obtain ⟨x, m1, m2, e1, e2, e3⟩ := qa_foretold hR (fA (ix (a3 + (1 : Int32))))
  obtain ⟨r, e4⟩ := hk m2 e3
  exact ⟨r, by simp only [fL_law_656, h1, cond_true, e1, e2, lw_qbI, eqb_rf, fL_law_1111, e4]⟩
theorem qa_begin {m : qM} (h : RAll m)  : QAll m (fX11_begin) (fX13_begin) := by
  exact QOp.all h (op_begin _ h.1)
theorem la_673 (hR : RAll m)  (hk : ∀ m', RAll m' → ∃ r, k10 (a3 + (6 : Int32)) m' = some r) : ∃ r, fL_law_673 nA fA k10 a3 m = some r := by
  obtain ⟨x, m1, m2, e1, e2, e3⟩ := qa_begin hR 
  obtain ⟨r, e4⟩ := hk m2 e3
  exact ⟨r, by simp only [fL_law_673, cond_true, e1, e2, lw_qbI, eqb_rf, fL_law_1111, e4]⟩
theorem qa_over {m : qM} (h : RAll m) (v1 : Int32) (v2 : Int32) (v3 : Int32) : QAll m (fX11_over v1 v2 v3) (fX13_over v1 v2 v3) := by
  obtain ⟨z1, b1, e1⟩ := Zi_of v1
  subst e1
  obtain ⟨z2, b2, e2⟩ := Zi_of v2
  subst e2
  obtain ⟨z3, b3, e3⟩ := Zi_of v3
  subst e3
  exact QOp.all h (op_over _ h.1 z1 z2 z3 b1 b2 b3)
theorem la_680 (hR : RAll m) (h1 : inb (a3 + (1 : Int32)) nA = true) (h2 : inb (a3 + (2 : Int32)) nA = true) (h3 : inb (a3 + (3 : Int32)) nA = true) (hk : ∀ m', RAll m' → ∃ r, k10 (a3 + (6 : Int32)) m' = some r) : ∃ r, fL_law_680 nA fA k10 a3 m = some r := by
  obtain ⟨x, m1, m2, e1, e2, e3⟩ := qa_over hR (fA (ix (a3 + (1 : Int32)))) (fA (ix (a3 + (2 : Int32)))) (fA (ix (a3 + (3 : Int32))))
  obtain ⟨r, e4⟩ := hk m2 e3
  exact ⟨r, by simp only [fL_law_680, h1, h2, h3, cond_true, e1, e2, lw_qbI, eqb_rf, fL_law_1111, e4]⟩
theorem qa_absent {m : qM} (h : RAll m) (v1 : Int32) (v2 : Int32) (is : Bool) : QAll m (fX11_absent v1 v2 (Zi (bI is))) (fX13_absent v1 v2 (Zi (bI is))) := by
  obtain ⟨z1, b1, e1⟩ := Zi_of v1
  subst e1
  obtain ⟨z2, b2, e2⟩ := Zi_of v2
  subst e2
  exact QOp.all h (op_absent _ h.1 z1 z2 is b1 b2)
theorem la_717 (hR : RAll m) (h1 : inb (a3 + (1 : Int32)) nA = true) (h2 : inb (a3 + (2 : Int32)) nA = true) (h3 : inb (a3 + (3 : Int32)) nA = true) (hk : ∀ m', RAll m' → ∃ r, k10 (a3 + (6 : Int32)) m' = some r) : ∃ r, fL_law_717 nA fA k10 a3 m = some r := by
  cases hb : eqb (fA (ix (a3 + (3 : Int32)))) (0 : Int32)
  · obtain ⟨x, m1, m2, e1, e2, e3⟩ := qa_absent hR (fA (ix (a3 + (1 : Int32)))) (fA (ix (a3 + (2 : Int32)))) true
    obtain ⟨r, e4⟩ := hk m2 e3
    rw [← zi_b1] at e1 e2
    exact ⟨r, by simp only [fL_law_717, fL_law_737, fL_law_758, h1, h2, h3, hb, cond_true, cond_false, e1, e2, lw_qbI, eqb_rf, fL_law_1111, e4]⟩
  · obtain ⟨x, m1, m2, e1, e2, e3⟩ := qa_absent hR (fA (ix (a3 + (1 : Int32)))) (fA (ix (a3 + (2 : Int32)))) false
    obtain ⟨r, e4⟩ := hk m2 e3
    rw [← zi_b0] at e1 e2
    exact ⟨r, by simp only [fL_law_717, fL_law_737, fL_law_758, h1, h2, h3, hb, cond_true, cond_false, e1, e2, lw_qbI, eqb_rf, fL_law_1111, e4]⟩
theorem qa_comes {m : qM} (h : RAll m) (v1 : Int32) (v2 : Int32) (v3 : Int32) : QAll m (fX11_comes v1 v2 v3) (fX13_comes v1 v2 v3) := by
  obtain ⟨z1, b1, e1⟩ := Zi_of v1
  subst e1
  obtain ⟨z2, b2, e2⟩ := Zi_of v2
  subst e2
  obtain ⟨z3, b3, e3⟩ := Zi_of v3
  subst e3
  exact QOp.all h (op_comes _ h.1 z1 z2 z3 b1 b2 b3)
theorem la_762 (hR : RAll m) (h1 : inb (a3 + (1 : Int32)) nA = true) (h2 : inb (a3 + (2 : Int32)) nA = true) (h3 : inb (a3 + (3 : Int32)) nA = true) (hk : ∀ m', RAll m' → ∃ r, k10 (a3 + (6 : Int32)) m' = some r) : ∃ r, fL_law_762 nA fA k10 a3 m = some r := by
  obtain ⟨x, m1, m2, e1, e2, e3⟩ := qa_comes hR (fA (ix (a3 + (1 : Int32)))) (fA (ix (a3 + (2 : Int32)))) (fA (ix (a3 + (3 : Int32))))
  obtain ⟨r, e4⟩ := hk m2 e3
  exact ⟨r, by simp only [fL_law_762, h1, h2, h3, cond_true, e1, e2, lw_qbI, eqb_rf, fL_law_1111, e4]⟩
theorem qa_away {m : qM} (h : RAll m) (v1 : Int32) (v2 : Int32) (v3 : Int32) (v4 : Int32) : QAll m (fX11_away v1 v2 v3 v4) (fX13_away v1 v2 v3 v4) := by
  obtain ⟨z1, b1, e1⟩ := Zi_of v1
  subst e1
  obtain ⟨z2, b2, e2⟩ := Zi_of v2
  subst e2
  obtain ⟨z3, b3, e3⟩ := Zi_of v3
  subst e3
  obtain ⟨z4, b4, e4⟩ := Zi_of v4
  subst e4
  exact QOp.all h (op_away _ h.1 z1 z2 z3 z4 b1 b2 b3 b4)
theorem la_799 (hR : RAll m) (h1 : inb (a3 + (1 : Int32)) nA = true) (h2 : inb (a3 + (2 : Int32)) nA = true) (h3 : inb (a3 + (3 : Int32)) nA = true) (h4 : inb (a3 + (4 : Int32)) nA = true) (hk : ∀ m', RAll m' → ∃ r, k10 (a3 + (6 : Int32)) m' = some r) : ∃ r, fL_law_799 nA fA k10 a3 m = some r := by
  obtain ⟨x, m1, m2, e1, e2, e3⟩ := qa_away hR (fA (ix (a3 + (1 : Int32)))) (fA (ix (a3 + (2 : Int32)))) (fA (ix (a3 + (3 : Int32)))) (fA (ix (a3 + (4 : Int32))))
  obtain ⟨r, e4⟩ := hk m2 e3
  exact ⟨r, by simp only [fL_law_799, h1, h2, h3, h4, cond_true, e1, e2, lw_qbI, eqb_rf, fL_law_1111, e4]⟩
theorem qa_meeting {m : qM} (h : RAll m) (v1 : Int32) (v2 : Int32) (v3 : Int32) : QAll m (fX11_meeting v1 v2 v3) (fX13_meeting v1 v2 v3) := by
  obtain ⟨z1, b1, e1⟩ := Zi_of v1
  subst e1
  obtain ⟨z2, b2, e2⟩ := Zi_of v2
  subst e2
  obtain ⟨z3, b3, e3⟩ := Zi_of v3
  subst e3
  exact op_meeting _ h z1 z2 z3 b1 b2 b3
theorem la_846 (hR : RAll m) (h1 : inb (a3 + (1 : Int32)) nA = true) (h2 : inb (a3 + (2 : Int32)) nA = true) (h3 : inb (a3 + (3 : Int32)) nA = true) (hk : ∀ m', RAll m' → ∃ r, k10 (a3 + (6 : Int32)) m' = some r) : ∃ r, fL_law_846 nA fA k10 a3 m = some r := by
  obtain ⟨x, m1, m2, e1, e2, e3⟩ := qa_meeting hR (fA (ix (a3 + (1 : Int32)))) (fA (ix (a3 + (2 : Int32)))) (fA (ix (a3 + (3 : Int32))))
  obtain ⟨r, e4⟩ := hk m2 e3
  exact ⟨r, by simp only [fL_law_846, h1, h2, h3, cond_true, e1, e2, lw_qbI, eqb_rf, fL_law_1111, e4]⟩
theorem qa_off {m : qM} (h : RAll m) (v1 : Int32) : QAll m (fX11_off v1) (fX13_off v1) := by
  obtain ⟨z1, b1, e1⟩ := Zi_of v1
  subst e1
  exact op_off _ h z1 b1
theorem la_883 (hR : RAll m) (h1 : inb (a3 + (1 : Int32)) nA = true) (hk : ∀ m', RAll m' → ∃ r, k10 (a3 + (6 : Int32)) m' = some r) : ∃ r, fL_law_883 nA fA k10 a3 m = some r := by
  obtain ⟨x, m1, m2, e1, e2, e3⟩ := qa_off hR (fA (ix (a3 + (1 : Int32))))
  obtain ⟨r, e4⟩ := hk m2 e3
  exact ⟨r, by simp only [fL_law_883, h1, cond_true, e1, e2, lw_qbI, eqb_rf, fL_law_1111, e4]⟩
theorem qa_next {m : qM} (h : RAll m) (v1 : Int32) (v2 : Int32) : QAll m (fX11_next v1 v2) (fX13_next v1 v2) := by
  obtain ⟨z1, b1, e1⟩ := Zi_of v1
  subst e1
  obtain ⟨z2, b2, e2⟩ := Zi_of v2
  subst e2
  exact op_next _ h z1 z2 b1 b2
theorem la_900 (hR : RAll m) (h1 : inb (a3 + (1 : Int32)) nA = true) (h2 : inb (a3 + (2 : Int32)) nA = true) (hk : ∀ m', RAll m' → ∃ r, k10 (a3 + (6 : Int32)) m' = some r) : ∃ r, fL_law_900 nA fA k10 a3 m = some r := by
  obtain ⟨x, m1, m2, e1, e2, e3⟩ := qa_next hR (fA (ix (a3 + (1 : Int32)))) (fA (ix (a3 + (2 : Int32))))
  obtain ⟨r, e4⟩ := hk m2 e3
  exact ⟨r, by simp only [fL_law_900, h1, h2, cond_true, e1, e2, lw_qbI, eqb_rf, fL_law_1111, e4]⟩
theorem qa_messages {m : qM} (h : RAll m) (v1 : Int32) : QAll m (fX11_messages v1) (fX13_messages v1) := by
  obtain ⟨z1, b1, e1⟩ := Zi_of v1
  subst e1
  exact op_messages _ h z1 b1
theorem la_927 (hR : RAll m) (h1 : inb (a3 + (1 : Int32)) nA = true) (hk : ∀ m', RAll m' → ∃ r, k10 (a3 + (6 : Int32)) m' = some r) : ∃ r, fL_law_927 nA fA k10 a3 m = some r := by
  obtain ⟨x, m1, m2, e1, e2, e3⟩ := qa_messages hR (fA (ix (a3 + (1 : Int32))))
  obtain ⟨r, e4⟩ := hk m2 e3
  exact ⟨r, by simp only [fL_law_927, h1, cond_true, e1, e2, lw_qbI, eqb_rf, fL_law_1111, e4]⟩
theorem qa_mend {m : qM} (h : RAll m) (v1 : Int32) : QAll m (fX11_mend v1) (fX13_mend v1) := by
  obtain ⟨z1, b1, e1⟩ := Zi_of v1
  subst e1
  exact op_mend _ h z1 b1
theorem la_944 (hR : RAll m) (h1 : inb (a3 + (1 : Int32)) nA = true) (hk : ∀ m', RAll m' → ∃ r, k10 (a3 + (6 : Int32)) m' = some r) : ∃ r, fL_law_944 nA fA k10 a3 m = some r := by
  obtain ⟨x, m1, m2, e1, e2, e3⟩ := qa_mend hR (fA (ix (a3 + (1 : Int32))))
  obtain ⟨r, e4⟩ := hk m2 e3
  exact ⟨r, by simp only [fL_law_944, h1, cond_true, e1, e2, lw_qbI, eqb_rf, fL_law_1111, e4]⟩
theorem qa_note {m : qM} (h : RAll m) (v1 : Int32) : QAll m (fX11_note v1) (fX13_note v1) := by
  obtain ⟨z1, b1, e1⟩ := Zi_of v1
  subst e1
  exact QOp.all h (op_note _ h.1 z1 b1)
theorem la_961 (hR : RAll m) (h1 : inb (a3 + (1 : Int32)) nA = true) (hk : ∀ m', RAll m' → ∃ r, k10 (a3 + (6 : Int32)) m' = some r) : ∃ r, fL_law_961 nA fA k10 a3 m = some r := by
  obtain ⟨x, m1, m2, e1, e2, e3⟩ := qa_note hR (fA (ix (a3 + (1 : Int32))))
  obtain ⟨r, e4⟩ := hk m2 e3
  exact ⟨r, by simp only [fL_law_961, h1, cond_true, e1, e2, lw_qbI, eqb_rf, fL_law_1111, e4]⟩
theorem qa_let {m : qM} (h : RAll m) (v1 : Int32) (v2 : Int32) (is : Bool) : QAll m (fX11_let v1 v2 (Zi (bI is))) (fX13_let v1 v2 (Zi (bI is))) := by
  obtain ⟨z1, b1, e1⟩ := Zi_of v1
  subst e1
  obtain ⟨z2, b2, e2⟩ := Zi_of v2
  subst e2
  exact QOp.all h (op_let _ h.1 z1 z2 is b1 b2)
theorem la_978 (hR : RAll m) (h1 : inb (a3 + (1 : Int32)) nA = true) (h2 : inb (a3 + (2 : Int32)) nA = true) (h3 : inb (a3 + (3 : Int32)) nA = true) (hk : ∀ m', RAll m' → ∃ r, k10 (a3 + (6 : Int32)) m' = some r) : ∃ r, fL_law_978 nA fA k10 a3 m = some r := by
  cases hb : eqb (fA (ix (a3 + (3 : Int32)))) (0 : Int32)
  · obtain ⟨x, m1, m2, e1, e2, e3⟩ := qa_let hR (fA (ix (a3 + (1 : Int32)))) (fA (ix (a3 + (2 : Int32)))) true
    obtain ⟨r, e4⟩ := hk m2 e3
    rw [← zi_b1] at e1 e2
    exact ⟨r, by simp only [fL_law_978, fL_law_998, fL_law_1019, h1, h2, h3, hb, cond_true, cond_false, e1, e2, lw_qbI, eqb_rf, fL_law_1111, e4]⟩
  · obtain ⟨x, m1, m2, e1, e2, e3⟩ := qa_let hR (fA (ix (a3 + (1 : Int32)))) (fA (ix (a3 + (2 : Int32)))) false
    obtain ⟨r, e4⟩ := hk m2 e3
    rw [← zi_b0] at e1 e2
    exact ⟨r, by simp only [fL_law_978, fL_law_998, fL_law_1019, h1, h2, h3, hb, cond_true, cond_false, e1, e2, lw_qbI, eqb_rf, fL_law_1111, e4]⟩
theorem qa_read {m : qM} (h : RAll m) (v1 : Int32) (v2 : Int32) (v3 : Int32) : QAll m (fX11_read v1 v2 v3) (fX13_read v1 v2 v3) := by
  obtain ⟨z1, b1, e1⟩ := Zi_of v1
  subst e1
  obtain ⟨z2, b2, e2⟩ := Zi_of v2
  subst e2
  obtain ⟨z3, b3, e3⟩ := Zi_of v3
  subst e3
  exact QOp.all h (op_read _ h.1 z1 z2 z3 b1 b2 b3)
theorem la_1023 (hR : RAll m) (h1 : inb (a3 + (1 : Int32)) nA = true) (h2 : inb (a3 + (2 : Int32)) nA = true) (h3 : inb (a3 + (3 : Int32)) nA = true) (hk : ∀ m', RAll m' → ∃ r, k10 (a3 + (6 : Int32)) m' = some r) : ∃ r, fL_law_1023 nA fA k10 a3 m = some r := by
  obtain ⟨x, m1, m2, e1, e2, e3⟩ := qa_read hR (fA (ix (a3 + (1 : Int32)))) (fA (ix (a3 + (2 : Int32)))) (fA (ix (a3 + (3 : Int32))))
  obtain ⟨r, e4⟩ := hk m2 e3
  exact ⟨r, by simp only [fL_law_1023, h1, h2, h3, cond_true, e1, e2, lw_qbI, eqb_rf, fL_law_1111, e4]⟩
theorem qa_find {m : qM} (h : RAll m) (v1 : Int32) : QAll m (fX11_find v1) (fX13_find v1) := by
  obtain ⟨z1, b1, e1⟩ := Zi_of v1
  subst e1
  exact QOp.all h (op_find _ h.1 z1 b1)
theorem la_1060 (hR : RAll m) (h1 : inb (a3 + (1 : Int32)) nA = true) (hk : ∀ m', RAll m' → ∃ r, k10 (a3 + (6 : Int32)) m' = some r) : ∃ r, fL_law_1060 nA fA k10 a3 m = some r := by
  obtain ⟨x, m1, m2, e1, e2, e3⟩ := qa_find hR (fA (ix (a3 + (1 : Int32))))
  obtain ⟨r, e4⟩ := hk m2 e3
  exact ⟨r, by simp only [fL_law_1060, h1, cond_true, e1, e2, lw_qbI, eqb_rf, fL_law_1111, e4]⟩
theorem qa_found {m : qM} (h : RAll m) (v1 : Int32) : QAll m (fX11_found v1) (fX13_found v1) := by
  obtain ⟨z1, b1, e1⟩ := Zi_of v1
  subst e1
  exact QOp.all h (op_found _ h.1 z1 b1)
theorem la_1077 (hR : RAll m) (h1 : inb (a3 + (1 : Int32)) nA = true) (hk : ∀ m', RAll m' → ∃ r, k10 (a3 + (6 : Int32)) m' = some r) : ∃ r, fL_law_1077 nA fA k10 a3 m = some r := by
  obtain ⟨x, m1, m2, e1, e2, e3⟩ := qa_found hR (fA (ix (a3 + (1 : Int32))))
  obtain ⟨r, e4⟩ := hk m2 e3
  exact ⟨r, by simp only [fL_law_1077, h1, cond_true, e1, e2, lw_qbI, eqb_rf, fL_law_1111, e4]⟩
theorem qa_count {m : qM} (h : RAll m) (v1 : Int32) : QAll m (fX11_count v1) (fX13_count v1) := by
  obtain ⟨z1, b1, e1⟩ := Zi_of v1
  subst e1
  exact op_count _ h z1 b1
theorem la_1094 (hR : RAll m) (h1 : inb (a3 + (1 : Int32)) nA = true) (hk : ∀ m', RAll m' → ∃ r, k10 (a3 + (6 : Int32)) m' = some r) : ∃ r, fL_law_1094 nA fA k10 a3 m = some r := by
  obtain ⟨x, m1, m2, e1, e2, e3⟩ := qa_count hR (fA (ix (a3 + (1 : Int32))))
  obtain ⟨r, e4⟩ := hk m2 e3
  exact ⟨r, by simp only [fL_law_1094, h1, cond_true, e1, e2, lw_qbI, eqb_rf, fL_law_1111, e4]⟩
end
theorem law_go {nA : Nat} {fA : Nat → Int32} (hn : nA ≤ 3072) : ∀ (g i : Nat) (m : qM), RAll m → 0 < g → nA < i + g → i ≤ 3100 → ∃ r, fL_law_10 nA fA g (Zi i) m = some r := by
  intro g
  induction g with
  | zero =>
    intro i m hR hg
    exact absurd hg (by omega)
  | succ g ih =>
    intro i m hR hg hi hi2
    have e0 : (Int32.ofNat nA) - (6 : Int32) = Zi ((nA : Int) - 6) := by
      rw [show Int32.ofNat nA = Zi (nA : Int) from (Int32.ofInt_eq_ofNat).symm, li_6, jsub]
    rw [fL_law_10, e0, ltb_j (by omega)]
    by_cases c : ((nA : Int) - 6) < (i : Int)
    · rw [decide_eq_true c, cond_true, eqb_rf, cond_true]
      exact ⟨_, rfl⟩
    · have q : ∀ d : Nat, d ≤ 5 → inb (Zi ((i : Int) + (d : Int))) nA = true := fun d hd => inb_j (by omega)
      have h0 : inb (Zi (i : Int)) nA = true := inb_j (by omega)
      have h1 : inb (Zi (i : Int) + (1 : Int32)) nA = true := by rw [li_1, jadd]; exact q 1 (by omega)
      have h2 : inb (Zi (i : Int) + (2 : Int32)) nA = true := by rw [li_2, jadd]; exact q 2 (by omega)
      have h3 : inb (Zi (i : Int) + (3 : Int32)) nA = true := by rw [li_3, jadd]; exact q 3 (by omega)
      have h4 : inb (Zi (i : Int) + (4 : Int32)) nA = true := by rw [li_4, jadd]; exact q 4 (by omega)
      have h5 : inb (Zi (i : Int) + (5 : Int32)) nA = true := by rw [li_5, jadd]; exact q 5 (by omega)
      have hk : ∀ m', RAll m' → ∃ r, fL_law_10 nA fA g (Zi (i : Int) + (6 : Int32)) m' = some r := fun m' hm' => by
        obtain ⟨r, hr⟩ := ih (i + 6) m' hm' (by omega) (by omega) (by omega)
        refine ⟨r, ?_⟩
        rw [li_6, jadd]
        exact hr
      have hz : ∃ r, fL_law_1111 nA fA (fL_law_10 nA fA g) (Zi (i : Int)) m = some r := by
        obtain ⟨r, hr⟩ := hk m hR
        exact ⟨r, by rw [fL_law_1111]; exact hr⟩
      rw [decide_eq_false c, cond_false, h0, cond_true]
      exact bif_ex (la_22 hR h1 h2 h3 h4 h5 hk) (bif_ex (la_79 hR h1 hk) (bif_ex (la_96 hR hk) (bif_ex (la_103 hR h1 hk) (bif_ex (la_120 hR h1 hk) (bif_ex (la_137 hR h1 h2 hk) (bif_ex (la_164 hR h1 hk) (bif_ex (la_181 hR h1 h2 h3 hk) (bif_ex (la_218 hR h1 h2 h3 hk) (bif_ex (la_255 hR h1 h2 h3 h4 hk) (bif_ex (la_302 hR h1 h2 h3 h4 hk) (bif_ex (la_349 hR h1 h2 h3 hk) (bif_ex (la_394 hR h1 h2 hk) (bif_ex (la_421 hR h1 h2 h3 hk) (bif_ex (la_466 hR h1 h2 hk) (bif_ex (la_493 hR h1 h2 hk) (bif_ex (la_520 hR h1 hk) (bif_ex (la_537 hR hk) (bif_ex (la_544 hR h1 hk) (bif_ex (la_561 hR hk) (bif_ex (la_568 hR h1 h2 hk) (bif_ex (la_595 hR h1 hk) (bif_ex (la_612 hR h1 hk) (bif_ex (la_629 hR h1 h2 hk) (bif_ex (la_656 hR h1 hk) (bif_ex (la_673 hR hk) (bif_ex (la_680 hR h1 h2 h3 hk) (bif_ex (la_717 hR h1 h2 h3 hk) (bif_ex (la_762 hR h1 h2 h3 hk) (bif_ex (la_799 hR h1 h2 h3 h4 hk) (bif_ex (la_846 hR h1 h2 h3 hk) (bif_ex (la_883 hR h1 hk) (bif_ex (la_900 hR h1 h2 hk) (bif_ex (la_927 hR h1 hk) (bif_ex (la_944 hR h1 hk) (bif_ex (la_961 hR h1 hk) (bif_ex (la_978 hR h1 h2 h3 hk) (bif_ex (la_1023 hR h1 h2 h3 hk) (bif_ex (la_1060 hR h1 hk) (bif_ex (la_1077 hR h1 hk) (bif_ex (la_1094 hR h1 hk) (hz)))))))))))))))))))))))))))))))))))))))))
