/-! the class's constructor: what lies where at the start (by program in part) -/
def AG (m : qM) (V : Nat → Nat → Int32) : Prop := ∀ c k, gI m c k = V c k
def upR (V : Nat → Nat → Int32) (c n : Nat) (v : Int32) : Nat → Nat → Int32 := fun c' k' => if c' = c ∧ k' < n then v else V c' k'
def up1 (V : Nat → Nat → Int32) (c k : Nat) (v : Int32) : Nat → Nat → Int32 := fun c' k' => if c' = c ∧ k' = k then v else V c' k'
theorem ag_qz {m : qM} {V : Nat → Nat → Int32} {c : Nat} (h : AG m V) (hz : ∀ k, V c k = 0) : AG (qz m c) V := fun c' k' => by
  rw [gI_qz]
  by_cases e : c' = c
  · rw [if_pos e, e, hz]
  · rw [if_neg e]; exact h c' k'
theorem ag_sR {m : qM} {V : Nat → Nat → Int32} {c k : Nat} {v : Option Nat} (h : AG m V) : AG (sR m c k v) V := fun c' k' => by rw [gI_sR]; exact h c' k'
theorem ag_sL {m : qM} {V : Nat → Nat → Int32} {c k : Nat} {v : Int64} (h : AG m V) : AG (sL m c k v) V := fun c' k' => by rw [gI_sL]; exact h c' k'
theorem ag_sI {m : qM} {V : Nat → Nat → Int32} {c k : Nat} {v : Int32} (h : AG m V) : AG (sI m c k v) (up1 V c k v) := fun c' k' => by
  rw [gI_sI, up1]
  split
  · rfl
  · exact h c' k'
theorem ag_s0 {m : qM} {V : Nat → Nat → Int32} {c k : Nat} (h : AG m V) (hz : V c k = 0) : AG (sI m c k 0) V := fun c' k' => by
  rw [gI_sI]
  by_cases e : c' = c ∧ k' = k
  · rw [if_pos e, e.1, e.2, hz]
  · rw [if_neg e]; exact h c' k'
theorem upR_0 (V : Nat → Nat → Int32) (c : Nat) (v : Int32) : upR V c 0 v = V := by
  funext c' k'
  rw [upR, if_neg (fun z => Nat.not_lt_zero k' z.2)]
theorem ag_fill {m : qM} {V : Nat → Nat → Int32} {c i : Nat} {v : Int32} (h : AG m (upR V c i v)) : AG (sI m c i v) (upR V c (i + 1) v) := fun c' k' => by
  rw [gI_sI, h c' k', upR, upR]
  by_cases e : c' = c
  · by_cases e2 : k' = i
    · rw [if_pos ⟨e, e2⟩, if_pos ⟨e, by omega⟩]
    · rw [if_neg (fun z => e2 z.2)]
      by_cases e3 : k' < i
      · rw [if_pos ⟨e, e3⟩, if_pos ⟨e, by omega⟩]
      · rw [if_neg (fun z => e3 z.2), if_neg (fun z => by have := z.2; omega)]
  · rw [if_neg (fun z => e z.1), if_neg (fun z => e z.1), if_neg (fun z => e z.1)]
theorem nb_4 : Nat.beq (Int32.toNatClampNeg ((4 : Int32))) 4 = true := by decide +kernel
theorem nz_4 : Nat.beq 4 0 = false := rfl
theorem nb_5 : Nat.beq (Int32.toNatClampNeg ((5 : Int32))) 5 = true := by decide +kernel
theorem nz_5 : Nat.beq 5 0 = false := rfl
theorem nb_6 : Nat.beq (Int32.toNatClampNeg ((6 : Int32))) 6 = true := by decide +kernel
theorem nz_6 : Nat.beq 6 0 = false := rfl
theorem nb_8 : Nat.beq (Int32.toNatClampNeg ((8 : Int32))) 8 = true := by decide +kernel
theorem nz_8 : Nat.beq 8 0 = false := rfl
theorem nb_10 : Nat.beq (Int32.toNatClampNeg ((10 : Int32))) 10 = true := by decide +kernel
theorem nz_10 : Nat.beq 10 0 = false := rfl
theorem nb_15 : Nat.beq (Int32.toNatClampNeg ((15 : Int32))) 15 = true := by decide +kernel
theorem nz_15 : Nat.beq 15 0 = false := rfl
theorem nb_32 : Nat.beq (Int32.toNatClampNeg ((32 : Int32))) 32 = true := by decide +kernel
theorem nz_32 : Nat.beq 32 0 = false := rfl
theorem nb_40 : Nat.beq (Int32.toNatClampNeg ((40 : Int32))) 40 = true := by decide +kernel
theorem nz_40 : Nat.beq 40 0 = false := rfl
theorem nb_80 : Nat.beq (Int32.toNatClampNeg ((80 : Int32))) 80 = true := by decide +kernel
theorem nz_80 : Nat.beq 80 0 = false := rfl
theorem nb_81 : Nat.beq (Int32.toNatClampNeg ((81 : Int32))) 81 = true := by decide +kernel
theorem nz_81 : Nat.beq 81 0 = false := rfl
theorem nb_100 : Nat.beq (Int32.toNatClampNeg ((100 : Int32))) 100 = true := by decide +kernel
theorem nz_100 : Nat.beq 100 0 = false := rfl
theorem nb_150 : Nat.beq (Int32.toNatClampNeg ((150 : Int32))) 150 = true := by decide +kernel
theorem nz_150 : Nat.beq 150 0 = false := rfl
theorem nb_160 : Nat.beq (Int32.toNatClampNeg ((160 : Int32))) 160 = true := by decide +kernel
theorem nz_160 : Nat.beq 160 0 = false := rfl
theorem nb_200 : Nat.beq (Int32.toNatClampNeg ((200 : Int32))) 200 = true := by decide +kernel
theorem nz_200 : Nat.beq 200 0 = false := rfl
theorem nb_225 : Nat.beq (Int32.toNatClampNeg ((225 : Int32))) 225 = true := by decide +kernel
theorem nz_225 : Nat.beq 225 0 = false := rfl
theorem nb_400 : Nat.beq (Int32.toNatClampNeg ((400 : Int32))) 400 = true := by decide +kernel
theorem nz_400 : Nat.beq 400 0 = false := rfl
theorem nb_2400 : Nat.beq (Int32.toNatClampNeg ((2400 : Int32))) 2400 = true := by decide +kernel
theorem nz_2400 : Nat.beq 2400 0 = false := rfl
theorem nb_3240 : Nat.beq (Int32.toNatClampNeg ((3240 : Int32))) 3240 = true := by decide +kernel
theorem nz_3240 : Nat.beq 3240 0 = false := rfl
theorem cX8_init_s (m : qM) (V : Nat → Nat → Int32) (h : AG m V) (hz : ∀ c k, 1 ≤ c → c ≤ 2 → V c k = 0) : wp (fX8_init m) (fun _ m' => AG m' V ∧ ∀ c k, ¬ (1 ≤ c ∧ c ≤ 2) → gR m' c k = gR m c k) := by
  refine wp_e (by
    rw [fX8_init_d]
    simp only [fX8_init_0, nb_4, nz_4, nb_5, nz_5, nb_6, nz_6, nb_8, nz_8, nb_10, nz_10, nb_15, nz_15, nb_32, nz_32, nb_40, nz_40, nb_80, nz_80, nb_81, nz_81, nb_100, nz_100, nb_150, nz_150, nb_160, nz_160, nb_200, nz_200, nb_225, nz_225, nb_400, nz_400, nb_2400, nz_2400, nb_3240, nz_3240, cond_true, cond_false]
    rfl) ⟨?_, fun c k hc => ?_⟩
  · repeat first | exact h | refine ag_sR ?_ | refine ag_sL ?_ | refine ag_qz ?_ (fun k => hz _ k (by omega) (by omega)) | refine ag_s0 ?_ (hz _ _ (by omega) (by omega))
  · simp only [gR_sR, gR_qz, gR_sI, gR_sL]
    repeat rw [if_neg (by omega)]
theorem cX5_init_9_s (m : qM) (V : Nat → Nat → Int32) (h : AG m V) (hz : ∀ c k, 9 ≤ c → c ≤ 15 → V c k = 0) : wp (fX5_init_9 m) (fun _ m' => AG m' V ∧ ∀ c k, ¬ (9 ≤ c ∧ c ≤ 15) → gR m' c k = gR m c k) := by
  refine wp_e (by
    rw [fX5_init_9_d]
    simp only [fX5_init_9_0, nb_4, nz_4, nb_5, nz_5, nb_6, nz_6, nb_8, nz_8, nb_10, nz_10, nb_15, nz_15, nb_32, nz_32, nb_40, nz_40, nb_80, nz_80, nb_81, nz_81, nb_100, nz_100, nb_150, nz_150, nb_160, nz_160, nb_200, nz_200, nb_225, nz_225, nb_400, nz_400, nb_2400, nz_2400, nb_3240, nz_3240, cond_true, cond_false]
    rfl) ⟨?_, fun c k hc => ?_⟩
  · repeat first | exact h | refine ag_sR ?_ | refine ag_sL ?_ | refine ag_qz ?_ (fun k => hz _ k (by omega) (by omega)) | refine ag_s0 ?_ (hz _ _ (by omega) (by omega))
  · simp only [gR_sR, gR_qz, gR_sI, gR_sL]
    repeat rw [if_neg (by omega)]
theorem cX5_init_19_s (m : qM) (V : Nat → Nat → Int32) (h : AG m V) (hz : ∀ c k, 19 ≤ c → c ≤ 25 → V c k = 0) : wp (fX5_init_19 m) (fun _ m' => AG m' V ∧ ∀ c k, ¬ (19 ≤ c ∧ c ≤ 25) → gR m' c k = gR m c k) := by
  refine wp_e (by
    rw [fX5_init_19_d]
    simp only [fX5_init_19_0, nb_4, nz_4, nb_5, nz_5, nb_6, nz_6, nb_8, nz_8, nb_10, nz_10, nb_15, nz_15, nb_32, nz_32, nb_40, nz_40, nb_80, nz_80, nb_81, nz_81, nb_100, nz_100, nb_150, nz_150, nb_160, nz_160, nb_200, nz_200, nb_225, nz_225, nb_400, nz_400, nb_2400, nz_2400, nb_3240, nz_3240, cond_true, cond_false]
    rfl) ⟨?_, fun c k hc => ?_⟩
  · repeat first | exact h | refine ag_sR ?_ | refine ag_sL ?_ | refine ag_qz ?_ (fun k => hz _ k (by omega) (by omega)) | refine ag_s0 ?_ (hz _ _ (by omega) (by omega))
  · simp only [gR_sR, gR_qz, gR_sI, gR_sL]
    repeat rw [if_neg (by omega)]
theorem cX5_init_26_s (m : qM) (V : Nat → Nat → Int32) (h : AG m V) (hz : ∀ c k, 26 ≤ c → c ≤ 32 → V c k = 0) : wp (fX5_init_26 m) (fun _ m' => AG m' V ∧ ∀ c k, ¬ (26 ≤ c ∧ c ≤ 32) → gR m' c k = gR m c k) := by
  refine wp_e (by
    rw [fX5_init_26_d]
    simp only [fX5_init_26_0, nb_4, nz_4, nb_5, nz_5, nb_6, nz_6, nb_8, nz_8, nb_10, nz_10, nb_15, nz_15, nb_32, nz_32, nb_40, nz_40, nb_80, nz_80, nb_81, nz_81, nb_100, nz_100, nb_150, nz_150, nb_160, nz_160, nb_200, nz_200, nb_225, nz_225, nb_400, nz_400, nb_2400, nz_2400, nb_3240, nz_3240, cond_true, cond_false]
    rfl) ⟨?_, fun c k hc => ?_⟩
  · repeat first | exact h | refine ag_sR ?_ | refine ag_sL ?_ | refine ag_qz ?_ (fun k => hz _ k (by omega) (by omega)) | refine ag_s0 ?_ (hz _ _ (by omega) (by omega))
  · simp only [gR_sR, gR_qz, gR_sI, gR_sL]
    repeat rw [if_neg (by omega)]
theorem cX5_init_33_s (m : qM) (V : Nat → Nat → Int32) (h : AG m V) (hz : ∀ c k, 33 ≤ c → c ≤ 39 → V c k = 0) : wp (fX5_init_33 m) (fun _ m' => AG m' V ∧ ∀ c k, ¬ (33 ≤ c ∧ c ≤ 39) → gR m' c k = gR m c k) := by
  refine wp_e (by
    rw [fX5_init_33_d]
    simp only [fX5_init_33_0, nb_4, nz_4, nb_5, nz_5, nb_6, nz_6, nb_8, nz_8, nb_10, nz_10, nb_15, nz_15, nb_32, nz_32, nb_40, nz_40, nb_80, nz_80, nb_81, nz_81, nb_100, nz_100, nb_150, nz_150, nb_160, nz_160, nb_200, nz_200, nb_225, nz_225, nb_400, nz_400, nb_2400, nz_2400, nb_3240, nz_3240, cond_true, cond_false]
    rfl) ⟨?_, fun c k hc => ?_⟩
  · repeat first | exact h | refine ag_sR ?_ | refine ag_sL ?_ | refine ag_qz ?_ (fun k => hz _ k (by omega) (by omega)) | refine ag_s0 ?_ (hz _ _ (by omega) (by omega))
  · simp only [gR_sR, gR_qz, gR_sI, gR_sL]
    repeat rw [if_neg (by omega)]
theorem cX5_init_40_s (m : qM) (V : Nat → Nat → Int32) (h : AG m V) (hz : ∀ c k, 40 ≤ c → c ≤ 46 → V c k = 0) : wp (fX5_init_40 m) (fun _ m' => AG m' V ∧ ∀ c k, ¬ (40 ≤ c ∧ c ≤ 46) → gR m' c k = gR m c k) := by
  refine wp_e (by
    rw [fX5_init_40_d]
    simp only [fX5_init_40_0, nb_4, nz_4, nb_5, nz_5, nb_6, nz_6, nb_8, nz_8, nb_10, nz_10, nb_15, nz_15, nb_32, nz_32, nb_40, nz_40, nb_80, nz_80, nb_81, nz_81, nb_100, nz_100, nb_150, nz_150, nb_160, nz_160, nb_200, nz_200, nb_225, nz_225, nb_400, nz_400, nb_2400, nz_2400, nb_3240, nz_3240, cond_true, cond_false]
    rfl) ⟨?_, fun c k hc => ?_⟩
  · repeat first | exact h | refine ag_sR ?_ | refine ag_sL ?_ | refine ag_qz ?_ (fun k => hz _ k (by omega) (by omega)) | refine ag_s0 ?_ (hz _ _ (by omega) (by omega))
  · simp only [gR_sR, gR_qz, gR_sI, gR_sL]
    repeat rw [if_neg (by omega)]
theorem cX9_init_s (m : qM) (V : Nat → Nat → Int32) (h : AG m V) (hz : ∀ c k, 74 ≤ c → c ≤ 79 → V c k = 0) : wp (fX9_init m) (fun _ m' => AG m' V ∧ ∀ c k, ¬ (74 ≤ c ∧ c ≤ 79) → gR m' c k = gR m c k) := by
  refine wp_e (by
    rw [fX9_init_d]
    simp only [fX9_init_0, nb_4, nz_4, nb_5, nz_5, nb_6, nz_6, nb_8, nz_8, nb_10, nz_10, nb_15, nz_15, nb_32, nz_32, nb_40, nz_40, nb_80, nz_80, nb_81, nz_81, nb_100, nz_100, nb_150, nz_150, nb_160, nz_160, nb_200, nz_200, nb_225, nz_225, nb_400, nz_400, nb_2400, nz_2400, nb_3240, nz_3240, cond_true, cond_false]
    rfl) ⟨?_, fun c k hc => ?_⟩
  · repeat first | exact h | refine ag_sR ?_ | refine ag_sL ?_ | refine ag_qz ?_ (fun k => hz _ k (by omega) (by omega)) | refine ag_s0 ?_ (hz _ _ (by omega) (by omega))
  · simp only [gR_sR, gR_qz, gR_sI, gR_sL]
    repeat rw [if_neg (by omega)]
theorem cX1_init_s (m : qM) (V : Nat → Nat → Int32) (h : AG m V) (hz : ∀ c k, 80 ≤ c → c ≤ 92 → V c k = 0) : wp (fX1_init m) (fun _ m' => AG m' V ∧ ∀ c k, ¬ (80 ≤ c ∧ c ≤ 92) → gR m' c k = gR m c k) := by
  refine wp_e (by
    rw [fX1_init_d]
    simp only [fX1_init_0, nb_4, nz_4, nb_5, nz_5, nb_6, nz_6, nb_8, nz_8, nb_10, nz_10, nb_15, nz_15, nb_32, nz_32, nb_40, nz_40, nb_80, nz_80, nb_81, nz_81, nb_100, nz_100, nb_150, nz_150, nb_160, nz_160, nb_200, nz_200, nb_225, nz_225, nb_400, nz_400, nb_2400, nz_2400, nb_3240, nz_3240, cond_true, cond_false]
    rfl) ⟨?_, fun c k hc => ?_⟩
  · repeat first | exact h | refine ag_sR ?_ | refine ag_sL ?_ | refine ag_qz ?_ (fun k => hz _ k (by omega) (by omega)) | refine ag_s0 ?_ (hz _ _ (by omega) (by omega))
  · simp only [gR_sR, gR_qz, gR_sI, gR_sL]
    repeat rw [if_neg (by omega)]
theorem cX2_init_s (m : qM) (V : Nat → Nat → Int32) (h : AG m V) (hz : ∀ c k, 93 ≤ c → c ≤ 97 → V c k = 0) : wp (fX2_init m) (fun _ m' => AG m' V ∧ ∀ c k, ¬ (93 ≤ c ∧ c ≤ 97) → gR m' c k = gR m c k) := by
  refine wp_e (by
    rw [fX2_init_d]
    simp only [fX2_init_0, nb_4, nz_4, nb_5, nz_5, nb_6, nz_6, nb_8, nz_8, nb_10, nz_10, nb_15, nz_15, nb_32, nz_32, nb_40, nz_40, nb_80, nz_80, nb_81, nz_81, nb_100, nz_100, nb_150, nz_150, nb_160, nz_160, nb_200, nz_200, nb_225, nz_225, nb_400, nz_400, nb_2400, nz_2400, nb_3240, nz_3240, cond_true, cond_false]
    rfl) ⟨?_, fun c k hc => ?_⟩
  · repeat first | exact h | refine ag_sR ?_ | refine ag_sL ?_ | refine ag_qz ?_ (fun k => hz _ k (by omega) (by omega)) | refine ag_s0 ?_ (hz _ _ (by omega) (by omega))
  · simp only [gR_sR, gR_qz, gR_sI, gR_sL]
    repeat rw [if_neg (by omega)]
theorem cX6_init_s (m : qM) (V : Nat → Nat → Int32) (h : AG m V) (hz : ∀ c k, 3 ≤ c → c ≤ 3 → V c k = 0) : wp (fX6_init m) (fun _ m' => AG m' (up1 V 3 5 (-1)) ∧ ∀ c k, ¬ (3 ≤ c ∧ c ≤ 3) → gR m' c k = gR m c k) := by
  refine wp_e (by
    rw [fX6_init_d]
    simp only [fX6_init_0]
    rfl) ⟨?_, fun c k hc => ?_⟩
  · refine ag_sR (ag_sI ?_)
    repeat first | exact h | refine ag_sR ?_ | refine ag_sL ?_ | refine ag_qz ?_ (fun k => hz _ k (by omega) (by omega)) | refine ag_s0 ?_ (hz _ _ (by omega) (by omega))
  · simp only [gR_sR, gR_qz, gR_sI, gR_sL]
    repeat rw [if_neg (by omega)]
theorem cX0_init_s (m : qM) (V : Nat → Nat → Int32) (h : AG m V) (hz : ∀ c k, 68 ≤ c → c ≤ 73 → V c k = 0) : wp (fX0_init m) (fun _ m' => AG m' (up1 (up1 (up1 V 68 10 (-1)) 68 11 (-1)) 68 12 (-1)) ∧ ∀ c k, ¬ (68 ≤ c ∧ c ≤ 73) → gR m' c k = gR m c k) := by
  refine wp_e (by
    rw [fX0_init_d]
    simp only [fX0_init_0, nb_4, nz_4, nb_5, nz_5, nb_6, nz_6, nb_8, nz_8, nb_10, nz_10, nb_15, nz_15, nb_32, nz_32, nb_40, nz_40, nb_80, nz_80, nb_81, nz_81, nb_100, nz_100, nb_150, nz_150, nb_160, nz_160, nb_200, nz_200, nb_225, nz_225, nb_400, nz_400, nb_2400, nz_2400, nb_3240, nz_3240, cond_true, cond_false]
    rfl) ⟨?_, fun c k hc => ?_⟩
  · refine ag_sR (ag_sR (ag_sL (ag_sI (ag_sI (ag_sI ?_)))))
    repeat first | exact h | refine ag_sR ?_ | refine ag_sL ?_ | refine ag_qz ?_ (fun k => hz _ k (by omega) (by omega)) | refine ag_s0 ?_ (hz _ _ (by omega) (by omega))
  · simp only [gR_sR, gR_qz, gR_sI, gR_sL]
    repeat rw [if_neg (by omega)]
theorem cX7_init_s (m : qM) (V : Nat → Nat → Int32) (h : AG m V) (hz : ∀ c k, 4 ≤ c → c ≤ 6 → V c k = 0) : wp (fX7_init m) (fun _ m' => (∀ c k, gI m' c k = if c = 5 ∧ k < 6 then qx10000 k else V c k) ∧ ∀ c k, ¬ (4 ≤ c ∧ c ≤ 6) → gR m' c k = gR m c k) := by
  have key : ∀ (r i g : Nat) (w : qM), i + r = 6 → r < g → gR w 4 0 = some 5 → (∀ c k, gI w c k = if c = 5 ∧ k < i then qx10000 k else V c k) → wp (fX7_init_12 g (Zi i) w) (fun _ m' => (∀ c k, gI m' c k = if c = 5 ∧ k < 6 then qx10000 k else V c k) ∧ gR m' = gR w) := by
    intro r
    induction r with
    | zero =>
      intro i g w hi hg h1 h2
      obtain ⟨g, rfl⟩ : ∃ g', g = g' + 1 := ⟨g - 1, by omega⟩
      have hi' : i = 6 := by omega
      subst hi'
      refine wp_e (x := ()) (m := w) ?_ ⟨h2, rfl⟩
      simp (disch := omega) only [fX7_init_12, qbI_s, qbL_s, qbV_s, qbR_s, qbR_n, qbN_s, qbN_n, qbIX_s, qbIX_n, qbVX_s, qbVX_n, cond_true, cond_false, cond_dec, jadd, jsub, jmul, jneg, li_0, li_1, li_2, li_3, li_4, li_5, li_6, li_7, li_8, li_9, li_10, li_14, li_15, li_16, li_19, li_20, li_24, li_30, li_31, li_32, li_39, li_40, li_48, li_57, li_59, li_60, li_63, li_65, li_80, li_81, li_90, li_97, li_99, li_100, li_122, li_126, li_127, li_150, li_160, li_200, li_225, li_255, li_400, li_799, li_800, li_999, li_2400, li_3239, li_3240, li_1048575, li_1431655765, li_858993459, li_252645135, eqb_j, ltb_j, leb_j, inb_j, ix_j, ix_n, nz_b, nz_0, nz_1, eqb_b, bnot, vI_ne, vI_eq, gIL, gLI, gIR, gRI, gLR, gRL, Int.reduceLT, Int.reduceLE, Int.reduceEq, Int.reduceAdd, Int.reduceSub, Int.reduceMul, Int.reduceNeg, Int.reduceToNat, Nat.reduceEqDiff, reduceIte, if_neg, if_pos, gI_ne]
    | succ r ih =>
      intro i g w hi hg h1 h2
      obtain ⟨g, rfl⟩ : ∃ g', g = g' + 1 := ⟨g - 1, by omega⟩
      obtain ⟨x, m', e1, e2, e3⟩ := ih (i + 1) g (sI w 5 i (qx10000 i)) (by omega) (by omega) (by rw [gR_sI]; exact h1) (fun c k => by
        rw [gI_sI, h2 c k]
        by_cases e : c = 5
        · by_cases e2 : k = i
          · rw [if_pos ⟨e, e2⟩, if_pos ⟨e, by omega⟩, e2]
          · rw [if_neg (fun z => e2 z.2)]
            by_cases e3 : k < i
            · rw [if_pos ⟨e, e3⟩, if_pos ⟨e, by omega⟩]
            · rw [if_neg (fun z => e3 z.2), if_neg (fun z => by have := z.2; omega)]
        · rw [if_neg (fun z => e z.1), if_neg (fun z => e z.1), if_neg (fun z => e z.1)])
      refine wp_e (x := x) (m := m') ?_ ⟨e2, e3.trans (gR_sI _ _ _ _)⟩
      have e1' : fX7_init_12 g (Zi ((i : Int) + 1)) (sI w 5 i (qx10000 i)) = some (x, m') := e1
      simp (disch := omega) only [fX7_init_12, qbI_s, qbL_s, qbV_s, qbR_s, qbR_n, qbN_s, qbN_n, qbIX_s, qbIX_n, qbVX_s, qbVX_n, cond_true, cond_false, cond_dec, jadd, jsub, jmul, jneg, li_0, li_1, li_2, li_3, li_4, li_5, li_6, li_7, li_8, li_9, li_10, li_14, li_15, li_16, li_19, li_20, li_24, li_30, li_31, li_32, li_39, li_40, li_48, li_57, li_59, li_60, li_63, li_65, li_80, li_81, li_90, li_97, li_99, li_100, li_122, li_126, li_127, li_150, li_160, li_200, li_225, li_255, li_400, li_799, li_800, li_999, li_2400, li_3239, li_3240, li_1048575, li_1431655765, li_858993459, li_252645135, eqb_j, ltb_j, leb_j, inb_j, ix_j, ix_n, nz_b, nz_0, nz_1, eqb_b, bnot, vI_ne, vI_eq, gIL, gLI, gIR, gRI, gLR, gRL, Int.reduceLT, Int.reduceLE, Int.reduceEq, Int.reduceAdd, Int.reduceSub, Int.reduceMul, Int.reduceNeg, Int.reduceToNat, Nat.reduceEqDiff, reduceIte, if_neg, if_pos, gI_ne, h1, show Nat.beq 5 5 = true from rfl, e1']
  have AG0 : AG (sR (qz (sR (qz m 5) 4 0 (some 5)) 6) 4 1 (some 6)) V := by
    repeat first | exact h | refine ag_sR ?_ | refine ag_sL ?_ | refine ag_qz ?_ (fun k => hz _ k (by omega) (by omega)) | refine ag_s0 ?_ (hz _ _ (by omega) (by omega))
  obtain ⟨x, m', e1, e2, e3⟩ := key 6 0 FU (sR (qz (sR (qz m 5) 4 0 (some 5)) 6) 4 1 (some 6)) (by omega) (by rw [FU_d]; omega) (by simp [gR_sR, gR_qz]) (fun c k => by rw [if_neg (fun z => Nat.not_lt_zero k z.2)]; exact AG0 c k)
  refine wp_e (x := x) (m := m') ?_ ⟨e2, fun c k hc => ?_⟩
  · have e1' : fX7_init_12 FU (Zi 0) (sR (qz (sR (qz m 5) 4 0 (some 5)) 6) 4 1 (some 6)) = some (x, m') := e1
    rw [fX7_init_d]
    simp only [fX7_init_0, nb_6, nz_6, cond_true, cond_false]
    exact e1'
  · rw [e3]
    simp only [gR_sR, gR_qz, gR_sI, gR_sL]
    repeat rw [if_neg (by omega)]
theorem cX10_init_s (m : qM) (V : Nat → Nat → Int32) (h : AG m V) (hz : ∀ c k, 7 ≤ c → c ≤ 46 → V c k = 0) : wp (fX10_init m) (fun _ m' => AG m' (upR V 16 10 (-1)) ∧ (∀ c k, ¬ (7 ≤ c ∧ c ≤ 46) → gR m' c k = gR m c k) ∧ gR m' 7 1 = some 9 ∧ gR m' 8 0 = some 19 ∧ gR m' 8 1 = some 26 ∧ gR m' 8 2 = some 33 ∧ gR m' 8 3 = some 40) := by
  have key : ∀ (r i g : Nat) (w : qM), i + r = 10 → r < g → gR w 7 2 = some 16 → AG w (upR V 16 i (-1)) → wp (fX10_init_39 g (Zi i) w) (fun _ m' => AG m' (upR V 16 10 (-1)) ∧ gR m' = gR w) := by
    intro r
    induction r with
    | zero =>
      intro i g w hi hg h1 h2
      obtain ⟨g, rfl⟩ : ∃ g', g = g' + 1 := ⟨g - 1, by omega⟩
      have hi' : i = 10 := by omega
      subst hi'
      refine wp_e (x := ()) (m := w) ?_ ⟨h2, rfl⟩
      simp (disch := omega) only [fX10_init_39, qbI_s, qbL_s, qbV_s, qbR_s, qbR_n, qbN_s, qbN_n, qbIX_s, qbIX_n, qbVX_s, qbVX_n, cond_true, cond_false, cond_dec, jadd, jsub, jmul, jneg, li_0, li_1, li_2, li_3, li_4, li_5, li_6, li_7, li_8, li_9, li_10, li_14, li_15, li_16, li_19, li_20, li_24, li_30, li_31, li_32, li_39, li_40, li_48, li_57, li_59, li_60, li_63, li_65, li_80, li_81, li_90, li_97, li_99, li_100, li_122, li_126, li_127, li_150, li_160, li_200, li_225, li_255, li_400, li_799, li_800, li_999, li_2400, li_3239, li_3240, li_1048575, li_1431655765, li_858993459, li_252645135, eqb_j, ltb_j, leb_j, inb_j, ix_j, ix_n, nz_b, nz_0, nz_1, eqb_b, bnot, vI_ne, vI_eq, gIL, gLI, gIR, gRI, gLR, gRL, Int.reduceLT, Int.reduceLE, Int.reduceEq, Int.reduceAdd, Int.reduceSub, Int.reduceMul, Int.reduceNeg, Int.reduceToNat, Nat.reduceEqDiff, reduceIte, if_neg, if_pos, gI_ne]
    | succ r ih =>
      intro i g w hi hg h1 h2
      obtain ⟨g, rfl⟩ : ∃ g', g = g' + 1 := ⟨g - 1, by omega⟩
      obtain ⟨x, m', e1, e2, e3⟩ := ih (i + 1) g (sI w 16 i (-1)) (by omega) (by omega) (by rw [gR_sI]; exact h1) (ag_fill h2)
      refine wp_e (x := x) (m := m') ?_ ⟨e2, e3.trans (gR_sI _ _ _ _)⟩
      have e1' : fX10_init_39 g (Zi ((i : Int) + 1)) (sI w 16 i (-1)) = some (x, m') := e1
      simp (disch := omega) only [fX10_init_39, qbI_s, qbL_s, qbV_s, qbR_s, qbR_n, qbN_s, qbN_n, qbIX_s, qbIX_n, qbVX_s, qbVX_n, cond_true, cond_false, cond_dec, jadd, jsub, jmul, jneg, li_0, li_1, li_2, li_3, li_4, li_5, li_6, li_7, li_8, li_9, li_10, li_14, li_15, li_16, li_19, li_20, li_24, li_30, li_31, li_32, li_39, li_40, li_48, li_57, li_59, li_60, li_63, li_65, li_80, li_81, li_90, li_97, li_99, li_100, li_122, li_126, li_127, li_150, li_160, li_200, li_225, li_255, li_400, li_799, li_800, li_999, li_2400, li_3239, li_3240, li_1048575, li_1431655765, li_858993459, li_252645135, eqb_j, ltb_j, leb_j, inb_j, ix_j, ix_n, nz_b, nz_0, nz_1, eqb_b, bnot, vI_ne, vI_eq, gIL, gLI, gIR, gRI, gLR, gRL, Int.reduceLT, Int.reduceLE, Int.reduceEq, Int.reduceAdd, Int.reduceSub, Int.reduceMul, Int.reduceNeg, Int.reduceToNat, Nat.reduceEqDiff, reduceIte, if_neg, if_pos, gI_ne, h1, show Nat.beq 16 16 = true from rfl]
      exact e1'
  have hz' : ∀ lo hi, 7 ≤ lo → hi ≤ 46 → ∀ c k, lo ≤ c → c ≤ hi → V c k = 0 := fun lo hi h1 h2 c k h3 h4 => hz c k (by omega) (by omega)
  obtain ⟨x4, m4, e4, a4, r4⟩ := cX5_init_9_s (qz (sR (qz m 8) 7 0 (some 8)) 9) V (by repeat first | exact h | refine ag_sR ?_ | refine ag_sL ?_ | refine ag_qz ?_ (fun k => hz _ k (by omega) (by omega)) | refine ag_s0 ?_ (hz _ _ (by omega) (by omega))) (hz' 9 15 (by omega) (by omega))
  obtain ⟨m11, h11⟩ : ∃ w, w = sR (qz (sR (qz (sR (qz (sR m4 7 1 (some 9)) 16) 7 2 (some 16)) 17) 7 3 (some 17)) 18) 7 4 (some 18) := ⟨_, rfl⟩
  have a11 : AG m11 V := by
    rw [h11]
    have h := a4
    repeat first | exact h | refine ag_sR ?_ | refine ag_sL ?_ | refine ag_qz ?_ (fun k => hz _ k (by omega) (by omega)) | refine ag_s0 ?_ (hz _ _ (by omega) (by omega))
  have r70 : gR m11 7 0 = some 8 := by
    rw [h11]
    simp [gR_sR, gR_qz, r4 7 0 (by omega)]
  have r71 : gR m11 7 1 = some 9 := by
    rw [h11]
    simp [gR_sR, gR_qz]
  have r72 : gR m11 7 2 = some 16 := by
    rw [h11]
    simp [gR_sR, gR_qz]
  have rout : ∀ c k, ¬ (7 ≤ c ∧ c ≤ 46) → gR m11 c k = gR m c k := fun c k hc => by
    rw [h11]
    simp only [gR_sR, gR_qz]
    repeat rw [if_neg (by omega)]
    rw [r4 c k (by omega)]
    simp only [gR_sR, gR_qz]
    repeat rw [if_neg (by omega)]
  obtain ⟨x14, m14, e14, a14, r14⟩ := cX5_init_19_s (qz m11 19) V (ag_qz a11 fun k => hz _ k (by omega) (by omega)) (hz' 19 25 (by omega) (by omega))
  obtain ⟨x18, m18, e18, a18, r18⟩ := cX5_init_26_s (qz (sR m14 8 0 (some 19)) 26) V (ag_qz (ag_sR a14) fun k => hz _ k (by omega) (by omega)) (hz' 26 32 (by omega) (by omega))
  obtain ⟨x22, m22, e22, a22, r22⟩ := cX5_init_33_s (qz (sR m18 8 1 (some 26)) 33) V (ag_qz (ag_sR a18) fun k => hz _ k (by omega) (by omega)) (hz' 33 39 (by omega) (by omega))
  obtain ⟨x26, m26, e26, a26, r26⟩ := cX5_init_40_s (qz (sR m22 8 2 (some 33)) 40) V (ag_qz (ag_sR a22) fun k => hz _ k (by omega) (by omega)) (hz' 40 46 (by omega) (by omega))
  have q14 : ∀ c k, ¬ (19 ≤ c ∧ c ≤ 25) → gR m14 c k = gR m11 c k := fun c k hc => by
    rw [r14 c k hc, gR_qz, if_neg (by omega)]
  have q18 : ∀ c k, ¬ (26 ≤ c ∧ c ≤ 32) → gR m18 c k = if c = 8 ∧ k = 0 then some 19 else gR m14 c k := fun c k hc => by
    rw [r18 c k hc, gR_qz, if_neg (by omega), gR_sR]
  have q22 : ∀ c k, ¬ (33 ≤ c ∧ c ≤ 39) → gR m22 c k = if c = 8 ∧ k = 1 then some 26 else gR m18 c k := fun c k hc => by
    rw [r22 c k hc, gR_qz, if_neg (by omega), gR_sR]
  have q26 : ∀ c k, ¬ (40 ≤ c ∧ c ≤ 46) → gR m26 c k = if c = 8 ∧ k = 2 then some 33 else gR m22 c k := fun c k hc => by
    rw [r26 c k hc, gR_qz, if_neg (by omega), gR_sR]
  have s15 : gR (sR m14 8 0 (some 19)) 7 0 = some 8 := by rw [gR_sR, if_neg (by omega), q14 7 0 (by omega)]; exact r70
  have s19 : gR (sR m18 8 1 (some 26)) 7 0 = some 8 := by rw [gR_sR, if_neg (by omega), q18 7 0 (by omega), if_neg (by omega), q14 7 0 (by omega)]; exact r70
  have s23 : gR (sR m22 8 2 (some 33)) 7 0 = some 8 := by rw [gR_sR, if_neg (by omega), q22 7 0 (by omega), if_neg (by omega), q18 7 0 (by omega), if_neg (by omega), q14 7 0 (by omega)]; exact r70
  have g27 : ∀ c k, ¬ (9 ≤ c ∧ c ≤ 46) → gR (sR m26 8 3 (some 40)) c k = if c = 8 ∧ k = 3 then some 40 else if c = 8 ∧ k = 2 then some 33 else if c = 8 ∧ k = 1 then some 26 else if c = 8 ∧ k = 0 then some 19 else gR m11 c k := fun c k hc => by
    rw [gR_sR, q26 c k (by omega), q22 c k (by omega), q18 c k (by omega), q14 c k (by omega)]
  obtain ⟨x, m', e1, e2, e3⟩ := key 10 0 FU (sR m26 8 3 (some 40)) (by omega) (by rw [FU_d]; omega) (by rw [g27 7 2 (by omega), if_neg (by omega), if_neg (by omega), if_neg (by omega), if_neg (by omega)]; exact r72) (by rw [upR_0]; exact ag_sR a26)
  refine wp_e (x := x) (m := m') ?_ ⟨e2, fun c k hc => ?_, ?_, ?_, ?_, ?_, ?_⟩
  · have e1' : fX10_init_39 FU (Zi 0) (sR m26 8 3 (some 40)) = some (x, m') := e1
    have e14' : fX5_init_19 (qz (sR (qz (sR (qz (sR (qz (sR m4 7 1 (some 9)) 16) 7 2 (some 16)) 17) 7 3 (some 17)) 18) 7 4 (some 18)) 19) = some (x14, m14) := by rw [← h11]; exact e14
    rw [h11] at r70
    rw [fX10_init_d]
    simp only [fX10_init_0, nb_4, nz_4, nb_10, nz_10, nb_200, nz_200, cond_true, cond_false]
    simp (disch := omega) only [qbI_s, qbL_s, qbV_s, qbR_s, qbR_n, qbN_s, qbN_n, qbIX_s, qbIX_n, qbVX_s, qbVX_n, cond_true, cond_false, cond_dec, jadd, jsub, jmul, jneg, li_0, li_1, li_2, li_3, li_4, li_5, li_6, li_7, li_8, li_9, li_10, li_14, li_15, li_16, li_19, li_20, li_24, li_30, li_31, li_32, li_39, li_40, li_48, li_57, li_59, li_60, li_63, li_65, li_80, li_81, li_90, li_97, li_99, li_100, li_122, li_126, li_127, li_150, li_160, li_200, li_225, li_255, li_400, li_799, li_800, li_999, li_2400, li_3239, li_3240, li_1048575, li_1431655765, li_858993459, li_252645135, eqb_j, ltb_j, leb_j, inb_j, ix_j, ix_n, nz_b, nz_0, nz_1, eqb_b, bnot, vI_ne, vI_eq, gIL, gLI, gIR, gRI, gLR, gRL, Int.reduceLT, Int.reduceLE, Int.reduceEq, Int.reduceAdd, Int.reduceSub, Int.reduceMul, Int.reduceNeg, Int.reduceToNat, Nat.reduceEqDiff, reduceIte, if_neg, if_pos, gI_ne, e4, r70, show Nat.beq 8 8 = true from rfl, e14', show Nat.beq 19 19 = true from rfl, s15, e18, show Nat.beq 26 26 = true from rfl, s19, e22, show Nat.beq 33 33 = true from rfl, s23, e26, show Nat.beq 40 40 = true from rfl, e1']
  · rw [e3, g27 c k (by omega), if_neg (by omega), if_neg (by omega), if_neg (by omega), if_neg (by omega)]
    exact rout c k hc
  · rw [e3, g27 7 1 (by omega), if_neg (by omega), if_neg (by omega), if_neg (by omega), if_neg (by omega)]
    exact r71
  · rw [e3, g27 8 0 (by omega), if_neg (by omega), if_neg (by omega), if_neg (by omega), if_pos ⟨rfl, rfl⟩]
  · rw [e3, g27 8 1 (by omega), if_neg (by omega), if_neg (by omega), if_pos ⟨rfl, rfl⟩]
  · rw [e3, g27 8 2 (by omega), if_neg (by omega), if_pos ⟨rfl, rfl⟩]
  · rw [e3, g27 8 3 (by omega), if_pos ⟨rfl, rfl⟩]
