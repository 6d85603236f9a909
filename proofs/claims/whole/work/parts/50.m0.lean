/-! numbers: an Int32 as a whole number; what is read, as one -/
def Zi (z : Int) : Int32 := Int32.ofInt z
def Zl (z : Int) : Int64 := Int64.ofInt z
noncomputable def vI (m : qM) (c k : Nat) : Int := (gI m c k).toInt
noncomputable def vL (m : qM) (c k : Nat) : Int := (gL m c k).toInt
def bI (b : Bool) : Int := if b then 1 else 0
theorem gIv (c : Nat) (m : qM) (k : Nat) : gI m c k = Zi (vI m c k) := (Int32.ofInt_toInt _).symm
theorem gLv (c : Nat) (m : qM) (k : Nat) : gL m c k = Zl (vL m c k) := (Int64.ofInt_toInt _).symm
theorem vI_r (m : qM) (c k : Nat) : -2147483648 ≤ vI m c k ∧ vI m c k < 2147483648 := by
  have h1 := Int32.le_toInt (gI m c k)
  have h2 := Int32.toInt_lt (gI m c k)
  unfold vI
  omega
theorem jt {z : Int} (h : -2147483648 ≤ z ∧ z < 2147483648) : (Zi z).toInt = z := by
  unfold Zi
  rw [Int32.toInt_ofInt]
  show Int.bmod z 4294967296 = z
  exact Int.bmod_eq_of_le (by omega) (by omega)
theorem Zlt {z : Int} (h : -9223372036854775808 ≤ z ∧ z < 9223372036854775808) : (Zl z).toInt = z := by
  unfold Zl
  rw [Int64.toInt_ofInt]
  show Int.bmod z 18446744073709551616 = z
  exact Int.bmod_eq_of_le (by omega) (by omega)
theorem Zi_self (x : Int32) : Zi x.toInt = x := Int32.ofInt_toInt x
theorem jadd (a b : Int) : Zi a + Zi b = Zi (a + b) := (Int32.ofInt_add a b).symm
theorem jsub (a b : Int) : Zi a - Zi b = Zi (a - b) := (Int32.ofInt_sub a b).symm
theorem jmul (a b : Int) : Zi a * Zi b = Zi (a * b) := (Int32.ofInt_mul a b).symm
theorem jneg (a : Int) : -Zi a = Zi (-a) := (Int32.ofInt_neg a).symm
theorem Zladd (a b : Int) : Zl a + Zl b = Zl (a + b) := (Int64.ofInt_add a b).symm
theorem Zlsub (a b : Int) : Zl a - Zl b = Zl (a - b) := (Int64.ofInt_sub a b).symm
theorem Zlmul (a b : Int) : Zl a * Zl b = Zl (a * b) := (Int64.ofInt_mul a b).symm
theorem Zlneg (a : Int) : -Zl a = Zl (-a) := (Int64.ofInt_neg a).symm
theorem toL {a : Int} (h : -2147483648 ≤ a ∧ a < 2147483648) : (Zi a).toInt64 = Zl a := by
  apply Int64.toInt_inj.mp
  rw [Int32.toInt_toInt64, jt h, Zlt (by omega)]
theorem li_0 : (0 : Int32) = Zi 0 := rfl
theorem li_1 : (1 : Int32) = Zi 1 := rfl
theorem li_2 : (2 : Int32) = Zi 2 := rfl
theorem li_3 : (3 : Int32) = Zi 3 := rfl
theorem li_4 : (4 : Int32) = Zi 4 := rfl
theorem li_5 : (5 : Int32) = Zi 5 := rfl
theorem li_6 : (6 : Int32) = Zi 6 := rfl
theorem li_7 : (7 : Int32) = Zi 7 := rfl
theorem li_8 : (8 : Int32) = Zi 8 := rfl
theorem li_9 : (9 : Int32) = Zi 9 := rfl
theorem li_10 : (10 : Int32) = Zi 10 := rfl
theorem li_14 : (14 : Int32) = Zi 14 := rfl
theorem li_15 : (15 : Int32) = Zi 15 := rfl
theorem li_16 : (16 : Int32) = Zi 16 := rfl
theorem li_19 : (19 : Int32) = Zi 19 := rfl
theorem li_20 : (20 : Int32) = Zi 20 := rfl
theorem li_24 : (24 : Int32) = Zi 24 := rfl
theorem li_30 : (30 : Int32) = Zi 30 := rfl
theorem li_31 : (31 : Int32) = Zi 31 := rfl
theorem li_32 : (32 : Int32) = Zi 32 := rfl
theorem li_39 : (39 : Int32) = Zi 39 := rfl
theorem li_40 : (40 : Int32) = Zi 40 := rfl
theorem li_48 : (48 : Int32) = Zi 48 := rfl
theorem li_57 : (57 : Int32) = Zi 57 := rfl
theorem li_59 : (59 : Int32) = Zi 59 := rfl
theorem li_60 : (60 : Int32) = Zi 60 := rfl
theorem li_63 : (63 : Int32) = Zi 63 := rfl
theorem li_65 : (65 : Int32) = Zi 65 := rfl
theorem li_80 : (80 : Int32) = Zi 80 := rfl
theorem li_81 : (81 : Int32) = Zi 81 := rfl
theorem li_90 : (90 : Int32) = Zi 90 := rfl
theorem li_97 : (97 : Int32) = Zi 97 := rfl
theorem li_99 : (99 : Int32) = Zi 99 := rfl
theorem li_100 : (100 : Int32) = Zi 100 := rfl
theorem li_122 : (122 : Int32) = Zi 122 := rfl
theorem li_126 : (126 : Int32) = Zi 126 := rfl
theorem li_127 : (127 : Int32) = Zi 127 := rfl
theorem li_150 : (150 : Int32) = Zi 150 := rfl
theorem li_160 : (160 : Int32) = Zi 160 := rfl
theorem li_200 : (200 : Int32) = Zi 200 := rfl
theorem li_225 : (225 : Int32) = Zi 225 := rfl
theorem li_255 : (255 : Int32) = Zi 255 := rfl
theorem li_400 : (400 : Int32) = Zi 400 := rfl
theorem li_799 : (799 : Int32) = Zi 799 := rfl
theorem li_800 : (800 : Int32) = Zi 800 := rfl
theorem li_999 : (999 : Int32) = Zi 999 := rfl
theorem li_2400 : (2400 : Int32) = Zi 2400 := rfl
theorem li_3239 : (3239 : Int32) = Zi 3239 := rfl
theorem li_3240 : (3240 : Int32) = Zi 3240 := rfl
theorem li_1048575 : (1048575 : Int32) = Zi 1048575 := rfl
theorem li_1431655765 : (1431655765 : Int32) = Zi 1431655765 := rfl
theorem li_858993459 : (858993459 : Int32) = Zi 858993459 := rfl
theorem li_252645135 : (252645135 : Int32) = Zi 252645135 := rfl
theorem ll_0 : (0 : Int64) = Zl 0 := rfl
theorem ll_1 : (1 : Int64) = Zl 1 := rfl
theorem ll_3 : (3 : Int64) = Zl 3 := rfl
theorem ll_5 : (5 : Int64) = Zl 5 := rfl
theorem ll_9 : (9 : Int64) = Zl 9 := rfl
theorem ll_10 : (10 : Int64) = Zl 10 := rfl
theorem ll_13 : (13 : Int64) = Zl 13 := rfl
theorem ll_14 : (14 : Int64) = Zl 14 := rfl
theorem ll_19 : (19 : Int64) = Zl 19 := rfl
theorem ll_20 : (20 : Int64) = Zl 20 := rfl
theorem ll_32 : (32 : Int64) = Zl 32 := rfl
theorem ll_60 : (60 : Int64) = Zl 60 := rfl
theorem ll_126 : (126 : Int64) = Zl 126 := rfl
theorem ll_799 : (799 : Int64) = Zl 799 := rfl
theorem ll_1024 : (1024 : Int64) = Zl 1024 := rfl
theorem ll_1048576 : (1048576 : Int64) = Zl 1048576 := rfl
theorem ll_67108864 : (67108864 : Int64) = Zl 67108864 := rfl
theorem eqb_j {a b : Int} (h : -2147483648 ≤ a ∧ a < 2147483648 ∧ -2147483648 ≤ b ∧ b < 2147483648) : eqb (Zi a) (Zi b) = decide (a = b) := by
  rw [eqb_d]
  simp only [← Int32.toInt_inj]
  rw [jt (by omega), jt (by omega)]
theorem ltb_j {a b : Int} (h : -2147483648 ≤ a ∧ a < 2147483648 ∧ -2147483648 ≤ b ∧ b < 2147483648) : ltb (Zi a) (Zi b) = decide (a < b) := by
  rw [ltb_d]
  simp only [Int32.lt_iff_toInt_lt]
  rw [jt (by omega), jt (by omega)]
theorem leb_j {a b : Int} (h : -2147483648 ≤ a ∧ a < 2147483648 ∧ -2147483648 ≤ b ∧ b < 2147483648) : leb (Zi a) (Zi b) = decide (a ≤ b) := by
  rw [leb_d]
  simp only [Int32.le_iff_toInt_le]
  rw [jt (by omega), jt (by omega)]
theorem tcn (x : Int32) : x.toNatClampNeg = x.toInt.toNat := rfl
theorem inb_i {x : Int32} {n : Nat} : inb x n = decide (0 ≤ x.toInt ∧ x.toInt < n) := by
  rw [inb_d]
  simp only [tcn, Int32.lt_iff_toInt_lt, decide_eq_decide]
  show ¬ (x.toInt < 0 ∨ n ≤ x.toInt.toNat) ↔ _
  omega
theorem inb_j {a : Int} {n : Nat} (h : 0 ≤ a ∧ a < n ∧ a < 2147483648) : inb (Zi a) n = true := by
  rw [inb_i, jt (by omega)]
  exact decide_eq_true (by omega)
theorem ix_j {a : Int} (h : -2147483648 ≤ a ∧ a < 2147483648) : ix (Zi a) = a.toNat := by
  rw [ix_d]
  simp only [tcn]
  rw [jt h]
theorem ix_n (k : Nat) : ((k : Int)).toNat = k := Int.toNat_natCast k
theorem bI_r (b : Bool) : 0 ≤ bI b ∧ bI b ≤ 1 := by cases b <;> decide
theorem nz_b (b : Bool) : nz (Zi (bI b)) = Zi (bI b) := by rw [nz_d]; cases b <;> rfl
theorem nz_0 : nz (Zi 0) = Zi 0 := nz_b false
theorem nz_1 : nz (Zi 1) = Zi 1 := nz_b true
theorem eqb_b (b : Bool) : eqb (Zi (bI b)) (Zi 0) = !b := by rw [eqb_d]; cases b <;> decide
theorem bnot {α : Type} (b : Bool) (x y : α) : (bif !b then x else y) = bif b then y else x := by cases b <;> rfl
theorem cond_dec {α : Type} (p : Prop) [Decidable p] (x y : α) : (bif decide p then x else y) = if p then x else y := by by_cases h : p <;> simp [h]
theorem bI_dec (p : Prop) [Decidable p] : bI (decide p) = if p then 1 else 0 := by by_cases h : p <;> simp [bI, h]
theorem vI_ne {m : qM} {c c' k k' : Nat} {v : Int32} (h : ¬ c' = c) : vI (sI m c k v) c' k' = vI m c' k' := by
  unfold vI
  rw [gI_sI, if_neg (fun z => h z.1)]
theorem vI_eq {m : qM} {c k k' : Nat} {z : Int} (h : -2147483648 ≤ z ∧ z < 2147483648) : vI (sI m c k (Zi z)) c k' = if k' = k then z else vI m c k' := by
  unfold vI
  rw [gI_sI]
  by_cases e : k' = k
  · rw [if_pos ⟨rfl, e⟩, if_pos e, jt h]
  · rw [if_neg (fun z => e z.2), if_neg e]
theorem gI_ne {m : qM} {c c' k k' : Nat} {v : Int32} (h : ¬ c' = c) : gI (sI m c k v) c' k' = gI m c' k' := by rw [gI_sI, if_neg (fun z => h z.1)]
theorem gI_eq {m : qM} {c k k' : Nat} {v : Int32} : gI (sI m c k v) c k' = if k' = k then v else gI m c k' := by
  rw [gI_sI]
  by_cases e : k' = k
  · rw [if_pos ⟨rfl, e⟩, if_pos e]
  · rw [if_neg (fun z => e z.2), if_neg e]
theorem gIL (m : qM) (c k : Nat) (v : Int64) (c' k' : Nat) : vI (sL m c k v) c' k' = vI m c' k' := by unfold vI; rw [gI_sL]
theorem gIR (m : qM) (c k : Nat) (v : Option Nat) (c' k' : Nat) : vI (sR m c k v) c' k' = vI m c' k' := by unfold vI; rw [gI_sR]
theorem gLI (m : qM) (c k : Nat) (v : Int32) (c' k' : Nat) : gL (sI m c k v) c' k' = gL m c' k' := by rw [gL_sI]
theorem gLR (m : qM) (c k : Nat) (v : Option Nat) (c' k' : Nat) : gL (sR m c k v) c' k' = gL m c' k' := by rw [gL_sR]
theorem gRI (m : qM) (c k : Nat) (v : Int32) (c' k' : Nat) : gR (sI m c k v) c' k' = gR m c' k' := by rw [gR_sI]
theorem gRL (m : qM) (c k : Nat) (v : Int64) (c' k' : Nat) : gR (sL m c k v) c' k' = gR m c' k' := by rw [gR_sL]
section
variable {ρ : Type}
theorem qbI_s (x : Int32) (m : qM) (k : Int32 → qM → Option ρ) : qbI (some (x, m)) k = k x m := rfl
theorem qbL_s (x : Int64) (m : qM) (k : Int64 → qM → Option ρ) : qbL (some (x, m)) k = k x m := rfl
theorem qbV_s (x : Unit) (m : qM) (k : qM → Option ρ) : qbV (some (x, m)) k = k m := rfl
theorem qbR_s (x : Nat) (m : qM) (k : Nat → qM → Option ρ) (g : qM → Option ρ) : qbR (some (some x, m)) k g = k x m := rfl
theorem qbR_n (m : qM) (k : Nat → qM → Option ρ) (g : qM → Option ρ) : qbR (some (none, m)) k g = g m := rfl
theorem qbN_s (x : Nat) (k : Nat → Option ρ) (g : Option ρ) : qbN (some x) k g = k x := rfl
theorem qbN_n (k : Nat → Option ρ) (g : Option ρ) : qbN none k g = g := rfl
theorem qbIX_s (x : Int32) (m : qM) (k : Int32 → qM → Option ρ) (g : qM → Option ρ) : qbIX (some (some x, m)) k g = k x m := rfl
theorem qbIX_n (m : qM) (k : Int32 → qM → Option ρ) (g : qM → Option ρ) : qbIX (some (none, m)) k g = g m := rfl
theorem qbVX_s (x : Unit) (m : qM) (k : qM → Option ρ) (g : qM → Option ρ) : qbVX (some (some x, m)) k g = k m := rfl
theorem qbVX_n (m : qM) (k : qM → Option ρ) (g : qM → Option ρ) : qbVX (some (none, m)) k g = g m := rfl
end
/-! what a method comes to -/
def wp {α : Type} (c : Option (α × qM)) (Q : α → qM → Prop) : Prop := ∃ x m', c = some (x, m') ∧ Q x m'
section
variable {α ρ : Type} {Q : ρ → qM → Prop}
theorem wp_s {x : ρ} {m : qM} (h : Q x m) : wp (some (x, m)) Q := ⟨x, m, rfl, h⟩
theorem wp_I {c : Option (Int32 × qM)} {k : Int32 → qM → Option (ρ × qM)} (h : wp c (fun x m => wp (k x m) Q)) : wp (qbI c k) Q := by
  obtain ⟨x, m, rfl, h⟩ := h
  exact h
theorem wp_L {c : Option (Int64 × qM)} {k : Int64 → qM → Option (ρ × qM)} (h : wp c (fun x m => wp (k x m) Q)) : wp (qbL c k) Q := by
  obtain ⟨x, m, rfl, h⟩ := h
  exact h
theorem wp_V {c : Option (Unit × qM)} {k : qM → Option (ρ × qM)} (h : wp c (fun _ m => wp (k m) Q)) : wp (qbV c k) Q := by
  obtain ⟨x, m, rfl, h⟩ := h
  exact h
theorem wp_mono {c : Option (ρ × qM)} {P : ρ → qM → Prop} (h : wp c P) (hq : ∀ x m, P x m → Q x m) : wp c Q := by
  obtain ⟨x, m, e, h⟩ := h
  exact ⟨x, m, e, hq x m h⟩
theorem wp_b {b : Bool} {x y : Option (ρ × qM)} (h1 : b = true → wp x Q) (h2 : b = false → wp y Q) : wp (bif b then x else y) Q := by
  cases b
  · exact h2 rfl
  · exact h1 rfl
theorem wp_i {p : Prop} [Decidable p] {x y : Option (ρ × qM)} (h1 : p → wp x Q) (h2 : ¬ p → wp y Q) : wp (if p then x else y) Q := by
  by_cases h : p
  · rw [if_pos h]; exact h1 h
  · rw [if_neg h]; exact h2 h
end
theorem lg_lt {a b : Int} (h : -9223372036854775808 ≤ a ∧ a < 9223372036854775808 ∧ -9223372036854775808 ≤ b ∧ b < 9223372036854775808) : ltb (lg_cmp (Zl a) (Zl b)) (Zi 0) = decide (a < b) := by
  rw [ltb_d, show Zi 0 = (0 : Int32) from rfl]
  simp only [lg_cmp_lt, Int64.lt_iff_toInt_lt]
  rw [Zlt (by omega), Zlt (by omega)]
theorem lg_gt {a b : Int} (h : -9223372036854775808 ≤ a ∧ a < 9223372036854775808 ∧ -9223372036854775808 ≤ b ∧ b < 9223372036854775808) : ltb (Zi 0) (lg_cmp (Zl a) (Zl b)) = decide (b < a) := by
  rw [ltb_d, show Zi 0 = (0 : Int32) from rfl]
  simp only [lg_cmp_gt, Int64.lt_iff_toInt_lt]
  rw [Zlt (by omega), Zlt (by omega)]
theorem lg_le {a b : Int} (h : -9223372036854775808 ≤ a ∧ a < 9223372036854775808 ∧ -9223372036854775808 ≤ b ∧ b < 9223372036854775808) : leb (lg_cmp (Zl a) (Zl b)) (Zi 0) = decide (a ≤ b) := by
  rw [leb_d, show Zi 0 = (0 : Int32) from rfl]
  simp only [lg_cmp_le, Int64.le_iff_toInt_le]
  rw [Zlt (by omega), Zlt (by omega)]
/-! small functions -/
theorem max_s (a b : Int) (h : -2147483648 ≤ a ∧ a < 2147483648 ∧ -2147483648 ≤ b ∧ b < 2147483648) (m : qM) : fJ9_max_7cf53 (Zi a) (Zi b) m = some (Zi (max a b), m) := by
  rw [fJ9_max_7cf53_d]
  simp (disch := omega) only [fJ9_max_7cf53_0, fJ9_max_7cf53_6, qbI_s, qbL_s, qbV_s, qbR_s, qbR_n, qbN_s, qbN_n, qbIX_s, qbIX_n, qbVX_s, qbVX_n, cond_true, cond_false, cond_dec, jadd, jsub, jmul, jneg, li_0, li_1, li_2, li_3, li_4, li_5, li_6, li_7, li_8, li_9, li_10, li_14, li_15, li_16, li_19, li_20, li_24, li_30, li_31, li_32, li_39, li_40, li_48, li_57, li_59, li_60, li_63, li_65, li_80, li_81, li_90, li_97, li_99, li_100, li_122, li_126, li_127, li_150, li_160, li_200, li_225, li_255, li_400, li_799, li_800, li_999, li_2400, li_3239, li_3240, li_1048575, li_1431655765, li_858993459, li_252645135, eqb_j, ltb_j, leb_j, inb_j, ix_j, ix_n, nz_b, nz_0, nz_1, eqb_b, bnot, vI_ne, vI_eq, gIL, gLI, gIR, gRI, gLR, gRL, Int.reduceLT, Int.reduceLE, Int.reduceEq, Int.reduceAdd, Int.reduceSub, Int.reduceMul, Int.reduceNeg, Int.reduceToNat, Nat.reduceEqDiff, reduceIte, if_neg, if_pos, gI_ne]
  split
  · rw [Int.max_eq_right (by omega)]
  · rw [Int.max_eq_left (by omega)]
theorem min_s (a b : Int) (h : -2147483648 ≤ a ∧ a < 2147483648 ∧ -2147483648 ≤ b ∧ b < 2147483648) (m : qM) : fJ9_min_7cf53 (Zi a) (Zi b) m = some (Zi (min a b), m) := by
  rw [fJ9_min_7cf53_d]
  simp (disch := omega) only [fJ9_min_7cf53_0, fJ9_min_7cf53_6, qbI_s, qbL_s, qbV_s, qbR_s, qbR_n, qbN_s, qbN_n, qbIX_s, qbIX_n, qbVX_s, qbVX_n, cond_true, cond_false, cond_dec, jadd, jsub, jmul, jneg, li_0, li_1, li_2, li_3, li_4, li_5, li_6, li_7, li_8, li_9, li_10, li_14, li_15, li_16, li_19, li_20, li_24, li_30, li_31, li_32, li_39, li_40, li_48, li_57, li_59, li_60, li_63, li_65, li_80, li_81, li_90, li_97, li_99, li_100, li_122, li_126, li_127, li_150, li_160, li_200, li_225, li_255, li_400, li_799, li_800, li_999, li_2400, li_3239, li_3240, li_1048575, li_1431655765, li_858993459, li_252645135, eqb_j, ltb_j, leb_j, inb_j, ix_j, ix_n, nz_b, nz_0, nz_1, eqb_b, bnot, vI_ne, vI_eq, gIL, gLI, gIR, gRI, gLR, gRL, Int.reduceLT, Int.reduceLE, Int.reduceEq, Int.reduceAdd, Int.reduceSub, Int.reduceMul, Int.reduceNeg, Int.reduceToNat, Nat.reduceEqDiff, reduceIte, if_neg, if_pos, gI_ne]
  split
  · rw [Int.min_eq_right (by omega)]
  · rw [Int.min_eq_left (by omega)]
theorem abs_s (a : Int) (h : -2147483648 < a ∧ a < 2147483648) (m : qM) : fJ9_abs_0f7a4 (Zi a) m = some (Zi (a.natAbs : Int), m) := by
  rw [fJ9_abs_0f7a4_d]
  simp (disch := omega) only [fJ9_abs_0f7a4_0, fJ9_abs_0f7a4_6, qbI_s, qbL_s, qbV_s, qbR_s, qbR_n, qbN_s, qbN_n, qbIX_s, qbIX_n, qbVX_s, qbVX_n, cond_true, cond_false, cond_dec, jadd, jsub, jmul, jneg, li_0, li_1, li_2, li_3, li_4, li_5, li_6, li_7, li_8, li_9, li_10, li_14, li_15, li_16, li_19, li_20, li_24, li_30, li_31, li_32, li_39, li_40, li_48, li_57, li_59, li_60, li_63, li_65, li_80, li_81, li_90, li_97, li_99, li_100, li_122, li_126, li_127, li_150, li_160, li_200, li_225, li_255, li_400, li_799, li_800, li_999, li_2400, li_3239, li_3240, li_1048575, li_1431655765, li_858993459, li_252645135, eqb_j, ltb_j, leb_j, inb_j, ix_j, ix_n, nz_b, nz_0, nz_1, eqb_b, bnot, vI_ne, vI_eq, gIL, gLI, gIR, gRI, gLR, gRL, Int.reduceLT, Int.reduceLE, Int.reduceEq, Int.reduceAdd, Int.reduceSub, Int.reduceMul, Int.reduceNeg, Int.reduceToNat, Nat.reduceEqDiff, reduceIte, if_neg, if_pos, gI_ne]
  split
  · rw [show ((a.natAbs : Nat) : Int) = a by omega]
  · rw [show ((a.natAbs : Nat) : Int) = -a by omega]
theorem within_s (a lo hi : Int) (h : -2147483648 ≤ a ∧ a < 2147483648 ∧ -2147483648 ≤ lo ∧ lo < 2147483648 ∧ -2147483648 ≤ hi ∧ hi < 2147483648) (m : qM) : fX11_within (Zi a) (Zi lo) (Zi hi) m = some (Zi (bI (decide (lo ≤ a ∧ a ≤ hi))), m) := by
  rw [fX11_within_d]
  simp (disch := omega) only [fX11_within_0, fX11_within_8, fX11_within_9, qbI_s, qbL_s, qbV_s, qbR_s, qbR_n, qbN_s, qbN_n, qbIX_s, qbIX_n, qbVX_s, qbVX_n, cond_true, cond_false, cond_dec, jadd, jsub, jmul, jneg, li_0, li_1, li_2, li_3, li_4, li_5, li_6, li_7, li_8, li_9, li_10, li_14, li_15, li_16, li_19, li_20, li_24, li_30, li_31, li_32, li_39, li_40, li_48, li_57, li_59, li_60, li_63, li_65, li_80, li_81, li_90, li_97, li_99, li_100, li_122, li_126, li_127, li_150, li_160, li_200, li_225, li_255, li_400, li_799, li_800, li_999, li_2400, li_3239, li_3240, li_1048575, li_1431655765, li_858993459, li_252645135, eqb_j, ltb_j, leb_j, inb_j, ix_j, ix_n, nz_b, nz_0, nz_1, eqb_b, bnot, vI_ne, vI_eq, gIL, gLI, gIR, gRI, gLR, gRL, Int.reduceLT, Int.reduceLE, Int.reduceEq, Int.reduceAdd, Int.reduceSub, Int.reduceMul, Int.reduceNeg, Int.reduceToNat, Nat.reduceEqDiff, reduceIte, if_neg, if_pos, gI_ne, bI_dec]
  split
  · rw [if_neg (by omega)]
  · split
    · rw [if_neg (by omega)]
    · rw [if_pos (by omega)]
theorem in_s (a lo hi : Int) (h : -9223372036854775808 ≤ a ∧ a < 9223372036854775808 ∧ -9223372036854775808 ≤ lo ∧ lo < 9223372036854775808 ∧ -9223372036854775808 ≤ hi ∧ hi < 9223372036854775808) (m : qM) : fX13_in (Zl a) (Zl lo) (Zl hi) m = some (Zi (bI (decide (lo ≤ a ∧ a ≤ hi))), m) := by
  rw [fX13_in_d]
  simp (disch := omega) only [fX13_in_0, fX13_in_10, fX13_in_11, qbI_s, qbL_s, qbV_s, qbR_s, qbR_n, qbN_s, qbN_n, qbIX_s, qbIX_n, qbVX_s, qbVX_n, cond_true, cond_false, cond_dec, jadd, jsub, jmul, jneg, li_0, li_1, li_2, li_3, li_4, li_5, li_6, li_7, li_8, li_9, li_10, li_14, li_15, li_16, li_19, li_20, li_24, li_30, li_31, li_32, li_39, li_40, li_48, li_57, li_59, li_60, li_63, li_65, li_80, li_81, li_90, li_97, li_99, li_100, li_122, li_126, li_127, li_150, li_160, li_200, li_225, li_255, li_400, li_799, li_800, li_999, li_2400, li_3239, li_3240, li_1048575, li_1431655765, li_858993459, li_252645135, eqb_j, ltb_j, leb_j, inb_j, ix_j, ix_n, nz_b, nz_0, nz_1, eqb_b, bnot, vI_ne, vI_eq, gIL, gLI, gIR, gRI, gLR, gRL, Int.reduceLT, Int.reduceLE, Int.reduceEq, Int.reduceAdd, Int.reduceSub, Int.reduceMul, Int.reduceNeg, Int.reduceToNat, Nat.reduceEqDiff, reduceIte, if_neg, if_pos, gI_ne, ll_0, ll_1, ll_3, ll_5, ll_9, ll_10, ll_13, ll_14, ll_19, ll_20, ll_32, ll_60, ll_126, ll_799, ll_1024, ll_1048576, ll_67108864, Zladd, Zlsub, Zlmul, Zlneg, toL, lg_lt, lg_gt, lg_le, bI_dec]
  split
  · rw [if_neg (by omega)]
  · split
    · rw [if_neg (by omega)]
    · rw [if_pos (by omega)]
