/-! what the class's cells and the reference's have to do with each other -/
/-- walk between two teachers -/
noncomputable def wkV (d : Nat → Nat → Int) (t u : Nat) : Int := d 99 1 * ((d 113 t - d 113 u).natAbs : Int) + (if d 112 t = d 112 u ∧ d 113 t = d 113 u then 0 else d 99 2)
def RRule (m : qM) : Prop := (∀ k, k < 6 → vI m 5 k = vI m 99 k) ∧ (1 ≤ vI m 99 0 ∧ vI m 99 0 ≤ 30) ∧ (0 ≤ vI m 99 1 ∧ vI m 99 1 ≤ 20) ∧ (0 ≤ vI m 99 2 ∧ vI m 99 2 ≤ 20) ∧ (0 ≤ vI m 99 3 ∧ vI m 99 3 ≤ 99) ∧ (0 ≤ vI m 99 4 ∧ vI m 99 4 ≤ 9) ∧ (0 ≤ vI m 99 5 ∧ vI m 99 5 ≤ 9)
def RRead (m : qM) : Prop := gI m 3 4 = gI m 98 18 ∧ gI m 3 5 = gI m 98 19
def RFol (m : qM) : Prop := ∀ t, t < 10 → vI m 16 t = vI m 108 t ∧ -1 ≤ vI m 108 t ∧ vI m 108 t ≤ 3
def RHab (m : qM) : Prop := (∀ t, t < 10 → vI m 18 t = vI m 132 t ∧ 0 ≤ vI m 132 t ∧ vI m 132 t ≤ 20) ∧ ∀ k, vI m 17 k = vI m 133 k ∧ 0 ≤ vI m 133 k ∧ vI m 133 k ≤ 60
def RPeoT (m : qM) : Prop := ∀ t, t < 10 → (vI m 48 t = vI m 112 t ∧ 0 ≤ vI m 112 t ∧ vI m 112 t ≤ 9) ∧ (vI m 49 t = vI m 113 t ∧ 0 ≤ vI m 113 t ∧ vI m 113 t ≤ 9) ∧ (0 ≤ vI m 114 t ∧ vI m 114 t ≤ vI m 115 t ∧ vI m 115 t ≤ 19) ∧ ∀ s : Nat, s < 32 → bt (gI m 50 t) s = decide (vI m 114 t ≤ s ∧ s ≤ vI m 115 t)
def RPeoF (m : qM) : Prop := ∀ f, f < 15 → (0 ≤ vI m 116 f ∧ vI m 116 f ≤ vI m 117 f ∧ vI m 117 f ≤ 19) ∧ (∀ s : Nat, s < 32 → bt (gI m 51 f) s = decide (vI m 116 f ≤ s ∧ s ≤ vI m 117 f)) ∧ (vI m 52 f = vI m 118 f ∧ 0 ≤ vI m 118 f ∧ vI m 118 f ≤ 3) ∧ (0 ≤ vI m 119 f ∧ vI m 119 f ≤ vI m 120 f ∧ vI m 120 f ≤ 19) ∧ (∀ s : Nat, s < 32 → bt (gI m 53 f) s = decide (vI m 119 f ≤ s ∧ s ≤ vI m 120 f)) ∧ (vI m 54 f = vI m 121 f ∧ 0 ≤ vI m 121 f ∧ vI m 121 f ≤ 9)
def RApart (m : qM) : Prop := (∀ f g, f < 15 → g < 15 → bt (gI m 55 f) g = decide (vI m 122 (15 * f + g) = 1) ∧ vI m 122 (15 * f + g) = vI m 122 (15 * g + f)) ∧ (∀ k, k < 225 → vI m 122 k = 0 ∨ vI m 122 k = 1) ∧ (∀ f, f < 15 → vI m 122 (15 * f + f) = 0)
def RWalk (m : qM) : Prop := ∀ t u, t < 10 → u < 10 → vI m 56 (10 * t + u) = wkV (vI m) t u ∧ vI m 57 (10 * t + u) = (wkV (vI m) t u + vI m 99 0 - 1) / vI m 99 0
/-- the asks -/
def RAsk (m : qM) : Prop := vI m 58 11 = vI m 98 32 ∧ 0 ≤ vI m 98 32 ∧ vI m 98 32 ≤ 40 ∧ ∀ a : Nat, (a : Int) < vI m 98 32 → (vI m 59 a = vI m 123 a ∧ 0 ≤ vI m 123 a ∧ vI m 123 a ≤ 14) ∧ (vI m 60 a = vI m 124 a ∧ 0 ≤ vI m 124 a ∧ vI m 124 a ≤ 9) ∧ (vI m 61 a = vI m 126 a ∧ (vI m 126 a = 0 ∨ vI m 126 a = 1)) ∧ (vI m 62 a = vI m 125 a ∧ -1 ≤ vI m 125 a ∧ vI m 125 a ≤ 19)
def RPair (m : qM) : Prop := ∀ f t : Nat, f < 15 → t < 10 → (∀ a : Nat, (a : Int) < vI m 98 32 → vI m 123 a = f → vI m 124 a = t → vI m 63 (10 * f + t) = a) ∧ ((∀ a : Nat, (a : Int) < vI m 98 32 → ¬ (vI m 123 a = f ∧ vI m 124 a = t)) → vI m 63 (10 * f + t) = -1)
/-- nobody is in two meetings at once -/
def RClash (m : qM) : Prop := ∀ a b : Nat, (a : Int) < vI m 98 32 → (b : Int) < vI m 98 32 → a ≠ b → vI m 125 a ≠ -1 → vI m 125 a = vI m 125 b → vI m 123 a ≠ vI m 123 b ∧ vI m 124 a ≠ vI m 124 b ∧ ¬ (0 < vI m 118 (vI m 123 a).toNat ∧ vI m 118 (vI m 123 a).toNat = vI m 118 (vI m 123 b).toNat)
def RDiary (m : qM) : Prop := ∀ t s : Nat, t < 10 → s < 20 → (∀ a : Nat, (a : Int) < vI m 98 32 → vI m 124 a = t → vI m 125 a = s → vI m 64 (20 * t + s) = a) ∧ ((∀ a : Nat, (a : Int) < vI m 98 32 → ¬ (vI m 124 a = t ∧ vI m 125 a = s)) → vI m 64 (20 * t + s) = -1)
/-- an ask in a slot, of a family, a teacher, with an interpreter -/
def laidF (d : Nat → Nat → Int) (f s : Nat) : Prop := ∃ a : Nat, (a : Int) < d 98 32 ∧ d 123 a = f ∧ d 125 a = s
def laidT (d : Nat → Nat → Int) (t s : Nat) : Prop := ∃ a : Nat, (a : Int) < d 98 32 ∧ d 124 a = t ∧ d 125 a = s
def laidI (d : Nat → Nat → Int) (i s : Nat) : Prop := ∃ a : Nat, (a : Int) < d 98 32 ∧ d 118 (d 123 a).toNat = i ∧ d 125 a = s
def RBits (m : qM) : Prop := (∀ f s, f < 15 → s < 32 → bt (gI m 65 f) s = pd (laidF (vI m) f s)) ∧ (∀ t s, t < 10 → s < 32 → bt (gI m 66 t) s = pd (laidT (vI m) t s)) ∧ (∀ i s, 0 < i → i < 4 → s < 32 → bt (gI m 67 i) s = pd (laidI (vI m) i s))
/-- counts of what is laid -/
def isLd (d : Nat → Nat → Int) (a : Nat) : Bool := decide (d 125 a ≠ -1)
def ptV (d : Nat → Nat → Int) (a : Nat) : Int := if d 125 a ≠ -1 ∧ d 119 (d 123 a).toNat ≤ d 125 a ∧ d 125 a ≤ d 120 (d 123 a).toNat then 1 + d 121 (d 123 a).toNat else 0
def RCnt (m : qM) : Prop := vI m 58 12 = fb_ct (fun a => decide (vI m 126 a = 1)) (vI m 98 32).toNat ∧ vI m 58 13 = fb_ct (fun a => isLd (vI m) a) (vI m 98 32).toNat ∧ vI m 58 14 = fb_ct (fun a => isLd (vI m) a && decide (vI m 126 a = 1)) (vI m 98 32).toNat ∧ vI m 58 15 = fb_sm (fun f => gapN (gI m 65 f)) 15 ∧ vI m 58 16 = fb_si (fun a => ptV (vI m) a) (vI m 98 32).toNat
def RTell (m : qM) : Prop := vI m 74 5 = vI m 98 52 ∧ 0 ≤ vI m 98 52 ∧ vI m 98 52 ≤ 80 ∧ (∀ k : Nat, k < 80 → vI m 75 k = vI m 135 k ∧ vI m 76 k = vI m 134 k ∧ vI m 77 k = vI m 136 k ∧ vI m 78 k = vI m 137 k ∧ vI m 79 k = vI m 138 k) ∧
  (∀ k : Nat, (k : Int) < vI m 98 52 → 0 ≤ vI m 134 k ∧ vI m 134 k ≤ 799 ∧ ((vI m 135 k = 0 ∧ 0 ≤ vI m 136 k ∧ vI m 136 k < vI m 98 32 ∧ 0 ≤ vI m 137 k ∧ vI m 137 k ≤ 60) ∨ (vI m 135 k = 1 ∧ 0 ≤ vI m 136 k ∧ vI m 136 k < vI m 98 32 ∧ (vI m 137 k = 0 ∨ vI m 137 k = 1)) ∨ (vI m 135 k = 2 ∧ 0 ≤ vI m 136 k ∧ vI m 136 k ≤ 14 ∧ 0 ≤ vI m 137 k ∧ vI m 137 k ≤ 799) ∨ (vI m 135 k = 3 ∧ 0 ≤ vI m 136 k ∧ vI m 136 k ≤ 9 ∧ 0 ≤ vI m 137 k ∧ vI m 137 k ≤ vI m 138 k ∧ vI m 138 k ≤ 799))) ∧
  (∀ j k : Nat, j ≤ k → (k : Int) < vI m 98 52 → vI m 134 j ≤ vI m 134 k)
def RBeg (m : qM) : Prop := vI m 0 10 = vI m 98 33 ∧ (vI m 98 33 = 0 ∨ vI m 98 33 = 1) ∧ (vI m 98 33 = 0 → vI m 98 52 = 0 ∧ ∀ j, j < 81 → vI m 83 j = 0)
def RNote (m : qM) : Prop := (∀ a, a < 40 → vI m 95 a = vI m 151 a ∧ 0 ≤ vI m 151 a ∧ vI m 151 a ≤ 60) ∧ (∀ a : Nat, vI m 98 32 ≤ a → a < 40 → vI m 151 a = 0) ∧ (∀ k, k < 2400 → vI m 94 k = vI m 153 k ∧ 0 ≤ vI m 153 k ∧ vI m 153 k ≤ 126) ∧ (∀ a t, a < 40 → t < 10 → bt (gI m 96 a) t = decide (vI m 154 (10 * a + t) = 1)) ∧ (∀ k, k < 400 → vI m 154 k = 0 ∨ vI m 154 k = 1) ∧ (vI m 93 5 = vI m 98 75 ∧ 0 ≤ vI m 98 75 ∧ vI m 98 75 ≤ 40) ∧ (∀ i, i < 40 → gI m 97 i = gI m 152 i) ∧ vI m 93 6 = fb_ct (fun a => decide (0 < vI m 151 a)) 40
/-- policies: the class's objects, whichever lies where -/
def polC (q : Nat) : Prop := q = 9 ∨ q = 19 ∨ q = 26 ∨ q = 33 ∨ q = 40
def RPolL (m : qM) (q p : Nat) : Prop := vI m q 6 = vI m 101 p ∧ 0 ≤ vI m 101 p ∧ vI m 101 p ≤ 8 ∧ ∀ l : Nat, (l : Int) < vI m 101 p → (vI m (q + 1) l = vI m 104 (8 * p + l) ∧ 1 ≤ vI m 104 (8 * p + l) ∧ vI m 104 (8 * p + l) ≤ 4) ∧ (vI m (q + 5) l = vI m 102 (8 * p + l) ∧ 0 ≤ vI m 102 (8 * p + l) ∧ vI m 102 (8 * p + l) ≤ 5) ∧ (vI m (q + 6) l = vI m 103 (8 * p + l) ∧ 0 ≤ vI m 103 (8 * p + l) ∧ vI m 103 (8 * p + l) ≤ 30 ∧ (vI m 102 (8 * p + l) = 4 ∨ vI m 102 (8 * p + l) = 5 → 1 ≤ vI m 103 (8 * p + l))) ∧
  ∀ c : Nat, (c : Int) < vI m 104 (8 * p + l) → (vI m (q + 2) (4 * l + c) = vI m 105 (4 * (8 * p + l) + c) ∧ 0 ≤ vI m 105 (4 * (8 * p + l) + c) ∧ vI m 105 (4 * (8 * p + l) + c) ≤ 5) ∧ (vI m (q + 3) (4 * l + c) = 0 ∧ vI m 106 (4 * (8 * p + l) + c) = 1 ∨ vI m (q + 3) (4 * l + c) = 1 ∧ vI m 106 (4 * (8 * p + l) + c) = -1 ∨ vI m (q + 3) (4 * l + c) = 2 ∧ vI m 106 (4 * (8 * p + l) + c) = 0) ∧ (vI m (q + 4) (4 * l + c) = vI m 107 (4 * (8 * p + l) + c) ∧ 0 ≤ vI m 107 (4 * (8 * p + l) + c) ∧ vI m 107 (4 * (8 * p + l) + c) ≤ 999)
def RPol (m : qM) : Prop := ∃ r : Nat → Nat, (∀ i, i < 5 → polC (r i)) ∧ (∀ i j, i < 5 → j < 5 → r i = r j → i = j) ∧ (∀ p, p < 4 → gR m 8 p = some (r p)) ∧ gR m 7 1 = some (r 4) ∧ ∀ p, p < 4 → RPolL m (r p) p
/-- all of it, but what is kept of the evening -/
def R0 (m : qM) : Prop := (RTape m ∧ RRead m ∧ RRule m ∧ RFol m ∧ RHab m) ∧ (RPeoT m ∧ RPeoF m ∧ RApart m ∧ RWalk m) ∧ (RAsk m ∧ RPair m ∧ RClash m ∧ RDiary m ∧ RBits m ∧ RCnt m) ∧ (RTell m ∧ RBeg m ∧ RNote m ∧ RPol m)
/-- what the evening is told out of, and what is kept of it -/
def EvD (c k : Nat) : Prop := c = 0 ∧ k = 10 ∨ 81 ≤ c ∧ c ≤ 83 ∨ c = 98 ∧ (k = 32 ∨ k = 33) ∨ c = 99 ∨ 101 ≤ c ∧ c ≤ 108 ∨ 112 ≤ c ∧ c ≤ 126 ∨ 132 ≤ c ∧ c ≤ 138
def EK (m m' : qM) : Prop := (∀ j, j < 81 → vI m' 83 j = 0) ∨ (vI m 98 52 ≤ vI m' 98 52 ∧ ∀ c k, EvD c k → (134 ≤ c → c ≤ 138 → (k : Int) < vI m 98 52) → vI m' c k = vI m c k)
theorem EK.of {m m' : qM} (q : ∀ c k, EvD c k ∨ c = 98 ∧ k = 52 → gI m' c k = gI m c k) : EK m m' := Or.inr ⟨by rw [vI_of (q 98 52 (Or.inr ⟨rfl, rfl⟩))]; exact Int.le_refl _, fun c k hc _ => vI_of (q c k (Or.inl hc))⟩
def QOp (m : qM) (fC fM : qM → Option (Int32 × qM)) : Prop := ∃ x m1 m2, fC m = some (x, m1) ∧ fM m1 = some (x, m2) ∧ R0 m2 ∧ EK m m2
theorem RTape.mono {m m' : qM} (h : RTape m) (q : ∀ c k, c = 1 ∧ k = 1 ∨ c = 98 ∧ k = 12 ∨ c = 2 ∨ c = 110 → gI m' c k = gI m c k) : RTape m' := by
  have v : ∀ c k, c = 1 ∧ k = 1 ∨ c = 98 ∧ k = 12 ∨ c = 2 ∨ c = 110 → vI m' c k = vI m c k := fun c k hc => vI_of (q c k hc)
  simp only [RTape] at h ⊢
  simp (disch := omega) only [v, q]
  exact h
theorem RRead.mono {m m' : qM} (h : RRead m) (q : ∀ c k, c = 3 ∧ (k = 4 ∨ k = 5) ∨ c = 98 ∧ (k = 18 ∨ k = 19) → gI m' c k = gI m c k) : RRead m' := by
  have v : ∀ c k, c = 3 ∧ (k = 4 ∨ k = 5) ∨ c = 98 ∧ (k = 18 ∨ k = 19) → vI m' c k = vI m c k := fun c k hc => vI_of (q c k hc)
  simp only [RRead] at h ⊢
  simp (disch := omega) only [v, q]
  exact h
theorem RRule.mono {m m' : qM} (h : RRule m) (q : ∀ c k, c = 5 ∨ c = 99 → gI m' c k = gI m c k) : RRule m' := by
  have v : ∀ c k, c = 5 ∨ c = 99 → vI m' c k = vI m c k := fun c k hc => vI_of (q c k hc)
  simp only [RRule] at h ⊢
  simp (disch := omega) only [v, q]
  exact h
theorem RFol.mono {m m' : qM} (h : RFol m) (q : ∀ c k, c = 16 ∨ c = 108 → gI m' c k = gI m c k) : RFol m' := by
  have v : ∀ c k, c = 16 ∨ c = 108 → vI m' c k = vI m c k := fun c k hc => vI_of (q c k hc)
  simp only [RFol] at h ⊢
  simp (disch := omega) only [v, q]
  exact h
theorem RHab.mono {m m' : qM} (h : RHab m) (q : ∀ c k, c = 17 ∨ c = 18 ∨ c = 132 ∨ c = 133 → gI m' c k = gI m c k) : RHab m' := by
  have v : ∀ c k, c = 17 ∨ c = 18 ∨ c = 132 ∨ c = 133 → vI m' c k = vI m c k := fun c k hc => vI_of (q c k hc)
  simp only [RHab] at h ⊢
  simp (disch := omega) only [v, q]
  exact h
theorem RPeoT.mono {m m' : qM} (h : RPeoT m) (q : ∀ c k, 48 ≤ c ∧ c ≤ 50 ∨ 112 ≤ c ∧ c ≤ 115 → gI m' c k = gI m c k) : RPeoT m' := by
  have v : ∀ c k, 48 ≤ c ∧ c ≤ 50 ∨ 112 ≤ c ∧ c ≤ 115 → vI m' c k = vI m c k := fun c k hc => vI_of (q c k hc)
  simp only [RPeoT] at h ⊢
  simp (disch := omega) only [v, q]
  exact h
theorem RPeoF.mono {m m' : qM} (h : RPeoF m) (q : ∀ c k, 51 ≤ c ∧ c ≤ 54 ∨ 116 ≤ c ∧ c ≤ 121 → gI m' c k = gI m c k) : RPeoF m' := by
  have v : ∀ c k, 51 ≤ c ∧ c ≤ 54 ∨ 116 ≤ c ∧ c ≤ 121 → vI m' c k = vI m c k := fun c k hc => vI_of (q c k hc)
  simp only [RPeoF] at h ⊢
  simp (disch := omega) only [v, q]
  exact h
theorem RApart.mono {m m' : qM} (h : RApart m) (q : ∀ c k, c = 55 ∨ c = 122 → gI m' c k = gI m c k) : RApart m' := by
  have v : ∀ c k, c = 55 ∨ c = 122 → vI m' c k = vI m c k := fun c k hc => vI_of (q c k hc)
  simp only [RApart] at h ⊢
  simp (disch := omega) only [v, q]
  exact h
theorem RWalk.mono {m m' : qM} (h : RWalk m) (q : ∀ c k, c = 56 ∨ c = 57 ∨ c = 99 ∨ c = 112 ∨ c = 113 → gI m' c k = gI m c k) : RWalk m' := by
  have v : ∀ c k, c = 56 ∨ c = 57 ∨ c = 99 ∨ c = 112 ∨ c = 113 → vI m' c k = vI m c k := fun c k hc => vI_of (q c k hc)
  simp only [RWalk, wkV] at h ⊢
  simp (disch := omega) only [v, q]
  exact h
theorem RAsk.mono {m m' : qM} (h : RAsk m) (q : ∀ c k, c = 58 ∧ k = 11 ∨ c = 98 ∧ k = 32 ∨ 59 ≤ c ∧ c ≤ 62 ∨ 123 ≤ c ∧ c ≤ 126 → gI m' c k = gI m c k) : RAsk m' := by
  have v : ∀ c k, c = 58 ∧ k = 11 ∨ c = 98 ∧ k = 32 ∨ 59 ≤ c ∧ c ≤ 62 ∨ 123 ≤ c ∧ c ≤ 126 → vI m' c k = vI m c k := fun c k hc => vI_of (q c k hc)
  simp only [RAsk] at h ⊢
  simp (disch := omega) only [v, q]
  exact h
theorem RPair.mono {m m' : qM} (h : RPair m) (q : ∀ c k, c = 63 ∨ c = 98 ∧ k = 32 ∨ c = 123 ∨ c = 124 → gI m' c k = gI m c k) : RPair m' := by
  have v : ∀ c k, c = 63 ∨ c = 98 ∧ k = 32 ∨ c = 123 ∨ c = 124 → vI m' c k = vI m c k := fun c k hc => vI_of (q c k hc)
  simp only [RPair] at h ⊢
  simp (disch := omega) only [v, q]
  exact h
theorem RClash.mono {m m' : qM} (h : RClash m) (q : ∀ c k, c = 98 ∧ k = 32 ∨ c = 118 ∨ 123 ≤ c ∧ c ≤ 125 → gI m' c k = gI m c k) : RClash m' := by
  have v : ∀ c k, c = 98 ∧ k = 32 ∨ c = 118 ∨ 123 ≤ c ∧ c ≤ 125 → vI m' c k = vI m c k := fun c k hc => vI_of (q c k hc)
  simp only [RClash] at h ⊢
  simp (disch := omega) only [v, q]
  exact h
theorem RDiary.mono {m m' : qM} (h : RDiary m) (q : ∀ c k, c = 64 ∨ c = 98 ∧ k = 32 ∨ c = 124 ∨ c = 125 → gI m' c k = gI m c k) : RDiary m' := by
  have v : ∀ c k, c = 64 ∨ c = 98 ∧ k = 32 ∨ c = 124 ∨ c = 125 → vI m' c k = vI m c k := fun c k hc => vI_of (q c k hc)
  simp only [RDiary] at h ⊢
  simp (disch := omega) only [v, q]
  exact h
theorem RBits.mono {m m' : qM} (h : RBits m) (q : ∀ c k, 65 ≤ c ∧ c ≤ 67 ∨ c = 98 ∧ k = 32 ∨ c = 118 ∨ 123 ≤ c ∧ c ≤ 125 → gI m' c k = gI m c k) : RBits m' := by
  have v : ∀ c k, 65 ≤ c ∧ c ≤ 67 ∨ c = 98 ∧ k = 32 ∨ c = 118 ∨ 123 ≤ c ∧ c ≤ 125 → vI m' c k = vI m c k := fun c k hc => vI_of (q c k hc)
  simp only [RBits, laidF, laidT, laidI] at h ⊢
  simp (disch := omega) only [v, q]
  exact h
theorem RCnt.mono {m m' : qM} (h : RCnt m) (q : ∀ c k, c = 58 ∧ 12 ≤ k ∧ k ≤ 16 ∨ c = 65 ∨ c = 98 ∧ k = 32 ∨ 119 ≤ c ∧ c ≤ 121 ∨ c = 123 ∨ c = 125 ∨ c = 126 → gI m' c k = gI m c k) : RCnt m' := by
  have v : ∀ c k, c = 58 ∧ 12 ≤ k ∧ k ≤ 16 ∨ c = 65 ∨ c = 98 ∧ k = 32 ∨ 119 ≤ c ∧ c ≤ 121 ∨ c = 123 ∨ c = 125 ∨ c = 126 → vI m' c k = vI m c k := fun c k hc => vI_of (q c k hc)
  simp only [RCnt, isLd, ptV] at h ⊢
  simp (disch := omega) only [v, q]
  exact h
theorem RTell.mono {m m' : qM} (h : RTell m) (q : ∀ c k, c = 74 ∧ k = 5 ∨ 75 ≤ c ∧ c ≤ 79 ∨ c = 98 ∧ (k = 52 ∨ k = 32) ∨ 134 ≤ c ∧ c ≤ 138 → gI m' c k = gI m c k) : RTell m' := by
  have v : ∀ c k, c = 74 ∧ k = 5 ∨ 75 ≤ c ∧ c ≤ 79 ∨ c = 98 ∧ (k = 52 ∨ k = 32) ∨ 134 ≤ c ∧ c ≤ 138 → vI m' c k = vI m c k := fun c k hc => vI_of (q c k hc)
  simp only [RTell] at h ⊢
  simp (disch := omega) only [v, q]
  exact h
theorem RBeg.mono {m m' : qM} (h : RBeg m) (q : ∀ c k, c = 0 ∧ k = 10 ∨ c = 98 ∧ (k = 33 ∨ k = 52) ∨ c = 83 → gI m' c k = gI m c k) : RBeg m' := by
  have v : ∀ c k, c = 0 ∧ k = 10 ∨ c = 98 ∧ (k = 33 ∨ k = 52) ∨ c = 83 → vI m' c k = vI m c k := fun c k hc => vI_of (q c k hc)
  simp only [RBeg] at h ⊢
  simp (disch := omega) only [v, q]
  exact h
theorem RNote.mono {m m' : qM} (h : RNote m) (q : ∀ c k, c = 93 ∨ c = 94 ∨ c = 95 ∨ c = 96 ∨ c = 97 ∨ c = 98 ∧ (k = 32 ∨ k = 75) ∨ 151 ≤ c ∧ c ≤ 154 → gI m' c k = gI m c k) : RNote m' := by
  have v : ∀ c k, c = 93 ∨ c = 94 ∨ c = 95 ∨ c = 96 ∨ c = 97 ∨ c = 98 ∧ (k = 32 ∨ k = 75) ∨ 151 ≤ c ∧ c ≤ 154 → vI m' c k = vI m c k := fun c k hc => vI_of (q c k hc)
  simp only [RNote] at h ⊢
  simp (disch := omega) only [v, q]
  exact h
theorem RPol.mono {m m' : qM} (h : RPol m) (q : ∀ c k, 8 ≤ c ∧ c ≤ 15 ∨ 19 ≤ c ∧ c ≤ 46 ∨ 101 ≤ c ∧ c ≤ 107 → gI m' c k = gI m c k) (g : gR m' = gR m) : RPol m' := by
  have v : ∀ c k, 8 ≤ c ∧ c ≤ 15 ∨ 19 ≤ c ∧ c ≤ 46 ∨ 101 ≤ c ∧ c ≤ 107 → vI m' c k = vI m c k := fun c k hc => vI_of (q c k hc)
  obtain ⟨r, h1, h2, h3, h4, h5⟩ := h
  refine ⟨r, h1, h2, by rw [g]; exact h3, by rw [g]; exact h4, fun p hp => ?_⟩
  have h6 := h5 p hp
  have h7 : r p = 9 ∨ r p = 19 ∨ r p = 26 ∨ r p = 33 ∨ r p = 40 := h1 p (by omega)
  simp only [RPolL] at h6 ⊢
  simp (disch := omega) only [v]
  exact h6
/-- the class's part: groups that a change leaves as they are -/
theorem small {z : Int} (h : -2147483648 ≤ z) (h2 : z < 2147483648) : -2147483648 ≤ z ∧ z < 2147483648 := ⟨h, h2⟩
theorem tR_s (a : Int) (h : -2147483648 ≤ a ∧ a < 2147483648) (m : qM) : fX11_isTeacher (Zi a) m = some (Zi (bI (decide (0 ≤ a ∧ a ≤ 9))), m) := by
  rw [fX11_isTeacher_d]
  simp (disch := omega) only [fX11_isTeacher_0, qbI_s, qbL_s, qbV_s, qbR_s, qbR_n, qbN_s, qbN_n, qbIX_s, qbIX_n, qbVX_s, qbVX_n, cond_true, cond_false, cond_dec, jadd, jsub, jmul, jneg, li_0, li_1, li_2, li_3, li_4, li_5, li_6, li_7, li_8, li_9, li_10, li_14, li_15, li_16, li_19, li_20, li_24, li_30, li_31, li_32, li_39, li_40, li_48, li_57, li_59, li_60, li_63, li_65, li_80, li_81, li_90, li_97, li_99, li_100, li_122, li_126, li_127, li_150, li_160, li_200, li_225, li_255, li_400, li_799, li_800, li_999, li_2400, li_3239, li_3240, li_1048575, li_1431655765, li_858993459, li_252645135, eqb_j, ltb_j, leb_j, inb_j, ix_j, ix_n, nz_b, nz_0, nz_1, eqb_b, bnot, vI_ne, vI_eq, gIL, gLI, gIR, gRI, gLR, gRL, Int.reduceLT, Int.reduceLE, Int.reduceEq, Int.reduceAdd, Int.reduceSub, Int.reduceMul, Int.reduceNeg, Int.reduceToNat, Nat.reduceEqDiff, reduceIte, if_neg, if_pos, gI_ne, within_s]
theorem fR_s (a : Int) (h : -2147483648 ≤ a ∧ a < 2147483648) (m : qM) : fX11_isFamily (Zi a) m = some (Zi (bI (decide (0 ≤ a ∧ a ≤ 14))), m) := by
  rw [fX11_isFamily_d]
  simp (disch := omega) only [fX11_isFamily_0, qbI_s, qbL_s, qbV_s, qbR_s, qbR_n, qbN_s, qbN_n, qbIX_s, qbIX_n, qbVX_s, qbVX_n, cond_true, cond_false, cond_dec, jadd, jsub, jmul, jneg, li_0, li_1, li_2, li_3, li_4, li_5, li_6, li_7, li_8, li_9, li_10, li_14, li_15, li_16, li_19, li_20, li_24, li_30, li_31, li_32, li_39, li_40, li_48, li_57, li_59, li_60, li_63, li_65, li_80, li_81, li_90, li_97, li_99, li_100, li_122, li_126, li_127, li_150, li_160, li_200, li_225, li_255, li_400, li_799, li_800, li_999, li_2400, li_3239, li_3240, li_1048575, li_1431655765, li_858993459, li_252645135, eqb_j, ltb_j, leb_j, inb_j, ix_j, ix_n, nz_b, nz_0, nz_1, eqb_b, bnot, vI_ne, vI_eq, gIL, gLI, gIR, gRI, gLR, gRL, Int.reduceLT, Int.reduceLE, Int.reduceEq, Int.reduceAdd, Int.reduceSub, Int.reduceMul, Int.reduceNeg, Int.reduceToNat, Nat.reduceEqDiff, reduceIte, if_neg, if_pos, gI_ne, within_s]
theorem pR_s (a : Int) (h : -2147483648 ≤ a ∧ a < 2147483648) (m : qM) : fX11_isPolicy (Zi a) m = some (Zi (bI (decide (0 ≤ a ∧ a ≤ 3))), m) := by
  rw [fX11_isPolicy_d]
  simp (disch := omega) only [fX11_isPolicy_0, qbI_s, qbL_s, qbV_s, qbR_s, qbR_n, qbN_s, qbN_n, qbIX_s, qbIX_n, qbVX_s, qbVX_n, cond_true, cond_false, cond_dec, jadd, jsub, jmul, jneg, li_0, li_1, li_2, li_3, li_4, li_5, li_6, li_7, li_8, li_9, li_10, li_14, li_15, li_16, li_19, li_20, li_24, li_30, li_31, li_32, li_39, li_40, li_48, li_57, li_59, li_60, li_63, li_65, li_80, li_81, li_90, li_97, li_99, li_100, li_122, li_126, li_127, li_150, li_160, li_200, li_225, li_255, li_400, li_799, li_800, li_999, li_2400, li_3239, li_3240, li_1048575, li_1431655765, li_858993459, li_252645135, eqb_j, ltb_j, leb_j, inb_j, ix_j, ix_n, nz_b, nz_0, nz_1, eqb_b, bnot, vI_ne, vI_eq, gIL, gLI, gIR, gRI, gLR, gRL, Int.reduceLT, Int.reduceLE, Int.reduceEq, Int.reduceAdd, Int.reduceSub, Int.reduceMul, Int.reduceNeg, Int.reduceToNat, Nat.reduceEqDiff, reduceIte, if_neg, if_pos, gI_ne, within_s]
theorem mR_s (a : Int) (h : -2147483648 ≤ a ∧ a < 2147483648) (m : qM) : fX11_isMinute (Zi a) m = some (Zi (bI (decide (0 ≤ a ∧ a ≤ 799))), m) := by
  rw [fX11_isMinute_d]
  simp (disch := omega) only [fX11_isMinute_0, qbI_s, qbL_s, qbV_s, qbR_s, qbR_n, qbN_s, qbN_n, qbIX_s, qbIX_n, qbVX_s, qbVX_n, cond_true, cond_false, cond_dec, jadd, jsub, jmul, jneg, li_0, li_1, li_2, li_3, li_4, li_5, li_6, li_7, li_8, li_9, li_10, li_14, li_15, li_16, li_19, li_20, li_24, li_30, li_31, li_32, li_39, li_40, li_48, li_57, li_59, li_60, li_63, li_65, li_80, li_81, li_90, li_97, li_99, li_100, li_122, li_126, li_127, li_150, li_160, li_200, li_225, li_255, li_400, li_799, li_800, li_999, li_2400, li_3239, li_3240, li_1048575, li_1431655765, li_858993459, li_252645135, eqb_j, ltb_j, leb_j, inb_j, ix_j, ix_n, nz_b, nz_0, nz_1, eqb_b, bnot, vI_ne, vI_eq, gIL, gLI, gIR, gRI, gLR, gRL, Int.reduceLT, Int.reduceLE, Int.reduceEq, Int.reduceAdd, Int.reduceSub, Int.reduceMul, Int.reduceNeg, Int.reduceToNat, Nat.reduceEqDiff, reduceIte, if_neg, if_pos, gI_ne, within_s]
theorem tM_s (a : Int) (h : -2147483648 ≤ a ∧ a < 2147483648) (m : qM) : fX13_isTeacher (Zi a) m = some (Zi (bI (decide (0 ≤ a ∧ a ≤ 9))), m) := by
  rw [fX13_isTeacher_d]
  simp (disch := omega) only [fX13_isTeacher_0, qbI_s, qbL_s, qbV_s, qbR_s, qbR_n, qbN_s, qbN_n, qbIX_s, qbIX_n, qbVX_s, qbVX_n, cond_true, cond_false, cond_dec, jadd, jsub, jmul, jneg, li_0, li_1, li_2, li_3, li_4, li_5, li_6, li_7, li_8, li_9, li_10, li_14, li_15, li_16, li_19, li_20, li_24, li_30, li_31, li_32, li_39, li_40, li_48, li_57, li_59, li_60, li_63, li_65, li_80, li_81, li_90, li_97, li_99, li_100, li_122, li_126, li_127, li_150, li_160, li_200, li_225, li_255, li_400, li_799, li_800, li_999, li_2400, li_3239, li_3240, li_1048575, li_1431655765, li_858993459, li_252645135, eqb_j, ltb_j, leb_j, inb_j, ix_j, ix_n, nz_b, nz_0, nz_1, eqb_b, bnot, vI_ne, vI_eq, gIL, gLI, gIR, gRI, gLR, gRL, Int.reduceLT, Int.reduceLE, Int.reduceEq, Int.reduceAdd, Int.reduceSub, Int.reduceMul, Int.reduceNeg, Int.reduceToNat, Nat.reduceEqDiff, reduceIte, if_neg, if_pos, gI_ne, ll_0, ll_1, ll_3, ll_5, ll_9, ll_10, ll_13, ll_14, ll_19, ll_20, ll_32, ll_60, ll_126, ll_799, ll_1024, ll_1048576, ll_67108864, Zladd, Zlsub, Zlmul, Zlneg, toL, lg_lt, lg_gt, lg_le, in_s]
theorem fM_s (a : Int) (h : -2147483648 ≤ a ∧ a < 2147483648) (m : qM) : fX13_isFamily (Zi a) m = some (Zi (bI (decide (0 ≤ a ∧ a ≤ 14))), m) := by
  rw [fX13_isFamily_d]
  simp (disch := omega) only [fX13_isFamily_0, qbI_s, qbL_s, qbV_s, qbR_s, qbR_n, qbN_s, qbN_n, qbIX_s, qbIX_n, qbVX_s, qbVX_n, cond_true, cond_false, cond_dec, jadd, jsub, jmul, jneg, li_0, li_1, li_2, li_3, li_4, li_5, li_6, li_7, li_8, li_9, li_10, li_14, li_15, li_16, li_19, li_20, li_24, li_30, li_31, li_32, li_39, li_40, li_48, li_57, li_59, li_60, li_63, li_65, li_80, li_81, li_90, li_97, li_99, li_100, li_122, li_126, li_127, li_150, li_160, li_200, li_225, li_255, li_400, li_799, li_800, li_999, li_2400, li_3239, li_3240, li_1048575, li_1431655765, li_858993459, li_252645135, eqb_j, ltb_j, leb_j, inb_j, ix_j, ix_n, nz_b, nz_0, nz_1, eqb_b, bnot, vI_ne, vI_eq, gIL, gLI, gIR, gRI, gLR, gRL, Int.reduceLT, Int.reduceLE, Int.reduceEq, Int.reduceAdd, Int.reduceSub, Int.reduceMul, Int.reduceNeg, Int.reduceToNat, Nat.reduceEqDiff, reduceIte, if_neg, if_pos, gI_ne, ll_0, ll_1, ll_3, ll_5, ll_9, ll_10, ll_13, ll_14, ll_19, ll_20, ll_32, ll_60, ll_126, ll_799, ll_1024, ll_1048576, ll_67108864, Zladd, Zlsub, Zlmul, Zlneg, toL, lg_lt, lg_gt, lg_le, in_s]
theorem sM_s (a : Int) (h : -2147483648 ≤ a ∧ a < 2147483648) (m : qM) : fX13_isSlot (Zi a) m = some (Zi (bI (decide (0 ≤ a ∧ a ≤ 19))), m) := by
  rw [fX13_isSlot_d]
  simp (disch := omega) only [fX13_isSlot_0, qbI_s, qbL_s, qbV_s, qbR_s, qbR_n, qbN_s, qbN_n, qbIX_s, qbIX_n, qbVX_s, qbVX_n, cond_true, cond_false, cond_dec, jadd, jsub, jmul, jneg, li_0, li_1, li_2, li_3, li_4, li_5, li_6, li_7, li_8, li_9, li_10, li_14, li_15, li_16, li_19, li_20, li_24, li_30, li_31, li_32, li_39, li_40, li_48, li_57, li_59, li_60, li_63, li_65, li_80, li_81, li_90, li_97, li_99, li_100, li_122, li_126, li_127, li_150, li_160, li_200, li_225, li_255, li_400, li_799, li_800, li_999, li_2400, li_3239, li_3240, li_1048575, li_1431655765, li_858993459, li_252645135, eqb_j, ltb_j, leb_j, inb_j, ix_j, ix_n, nz_b, nz_0, nz_1, eqb_b, bnot, vI_ne, vI_eq, gIL, gLI, gIR, gRI, gLR, gRL, Int.reduceLT, Int.reduceLE, Int.reduceEq, Int.reduceAdd, Int.reduceSub, Int.reduceMul, Int.reduceNeg, Int.reduceToNat, Nat.reduceEqDiff, reduceIte, if_neg, if_pos, gI_ne, ll_0, ll_1, ll_3, ll_5, ll_9, ll_10, ll_13, ll_14, ll_19, ll_20, ll_32, ll_60, ll_126, ll_799, ll_1024, ll_1048576, ll_67108864, Zladd, Zlsub, Zlmul, Zlneg, toL, lg_lt, lg_gt, lg_le, in_s]
theorem mM_s (a : Int) (h : -2147483648 ≤ a ∧ a < 2147483648) (m : qM) : fX13_isMinute (Zi a) m = some (Zi (bI (decide (0 ≤ a ∧ a ≤ 799))), m) := by
  rw [fX13_isMinute_d]
  simp (disch := omega) only [fX13_isMinute_0, qbI_s, qbL_s, qbV_s, qbR_s, qbR_n, qbN_s, qbN_n, qbIX_s, qbIX_n, qbVX_s, qbVX_n, cond_true, cond_false, cond_dec, jadd, jsub, jmul, jneg, li_0, li_1, li_2, li_3, li_4, li_5, li_6, li_7, li_8, li_9, li_10, li_14, li_15, li_16, li_19, li_20, li_24, li_30, li_31, li_32, li_39, li_40, li_48, li_57, li_59, li_60, li_63, li_65, li_80, li_81, li_90, li_97, li_99, li_100, li_122, li_126, li_127, li_150, li_160, li_200, li_225, li_255, li_400, li_799, li_800, li_999, li_2400, li_3239, li_3240, li_1048575, li_1431655765, li_858993459, li_252645135, eqb_j, ltb_j, leb_j, inb_j, ix_j, ix_n, nz_b, nz_0, nz_1, eqb_b, bnot, vI_ne, vI_eq, gIL, gLI, gIR, gRI, gLR, gRL, Int.reduceLT, Int.reduceLE, Int.reduceEq, Int.reduceAdd, Int.reduceSub, Int.reduceMul, Int.reduceNeg, Int.reduceToNat, Nat.reduceEqDiff, reduceIte, if_neg, if_pos, gI_ne, ll_0, ll_1, ll_3, ll_5, ll_9, ll_10, ll_13, ll_14, ll_19, ll_20, ll_32, ll_60, ll_126, ll_799, ll_1024, ll_1048576, ll_67108864, Zladd, Zlsub, Zlmul, Zlneg, toL, lg_lt, lg_gt, lg_le, in_s]
theorem spC_s (a b n : Int) (h : -2147483648 ≤ a ∧ a < 2147483648 ∧ -2147483648 ≤ b ∧ b < 2147483648 ∧ -2147483648 ≤ n ∧ n < 2147483648) (m : qM) : fX11_isSpan (Zi a) (Zi b) (Zi n) m = some (Zi (bI (decide (0 ≤ a ∧ a ≤ b ∧ b < n))), m) := by
  rw [fX11_isSpan_d]
  simp (disch := omega) only [fX11_isSpan_0, fX11_isSpan_10, fX11_isSpan_11, qbI_s, qbL_s, qbV_s, qbR_s, qbR_n, qbN_s, qbN_n, qbIX_s, qbIX_n, qbVX_s, qbVX_n, cond_true, cond_false, cond_dec, jadd, jsub, jmul, jneg, li_0, li_1, li_2, li_3, li_4, li_5, li_6, li_7, li_8, li_9, li_10, li_14, li_15, li_16, li_19, li_20, li_24, li_30, li_31, li_32, li_39, li_40, li_48, li_57, li_59, li_60, li_63, li_65, li_80, li_81, li_90, li_97, li_99, li_100, li_122, li_126, li_127, li_150, li_160, li_200, li_225, li_255, li_400, li_799, li_800, li_999, li_2400, li_3239, li_3240, li_1048575, li_1431655765, li_858993459, li_252645135, eqb_j, ltb_j, leb_j, inb_j, ix_j, ix_n, nz_b, nz_0, nz_1, eqb_b, bnot, vI_ne, vI_eq, gIL, gLI, gIR, gRI, gLR, gRL, Int.reduceLT, Int.reduceLE, Int.reduceEq, Int.reduceAdd, Int.reduceSub, Int.reduceMul, Int.reduceNeg, Int.reduceToNat, Nat.reduceEqDiff, reduceIte, if_neg, if_pos, gI_ne, bI_dec]
  by_cases g1 : a < 0
  · rw [if_pos g1, if_neg (by omega)]
  · rw [if_neg g1]
    by_cases g2 : b < a
    · rw [if_pos g2, if_neg (by omega)]
    · rw [if_neg g2]
      by_cases g3 : n ≤ b
      · rw [if_pos g3, if_neg (by omega)]
      · rw [if_neg g3, if_pos (by omega)]
theorem spM_s (a b : Int) (h : -2147483648 ≤ a ∧ a < 2147483648 ∧ -2147483648 ≤ b ∧ b < 2147483648) (m : qM) : fX13_areSlots (Zi a) (Zi b) m = some (Zi (bI (decide (0 ≤ a ∧ a ≤ b ∧ b < 20))), m) := by
  rw [fX13_areSlots_d]
  simp (disch := omega) only [fX13_areSlots_0, fX13_areSlots_12, fX13_areSlots_13, sM_s, qbI_s, qbL_s, qbV_s, qbR_s, qbR_n, qbN_s, qbN_n, qbIX_s, qbIX_n, qbVX_s, qbVX_n, cond_true, cond_false, cond_dec, jadd, jsub, jmul, jneg, li_0, li_1, li_2, li_3, li_4, li_5, li_6, li_7, li_8, li_9, li_10, li_14, li_15, li_16, li_19, li_20, li_24, li_30, li_31, li_32, li_39, li_40, li_48, li_57, li_59, li_60, li_63, li_65, li_80, li_81, li_90, li_97, li_99, li_100, li_122, li_126, li_127, li_150, li_160, li_200, li_225, li_255, li_400, li_799, li_800, li_999, li_2400, li_3239, li_3240, li_1048575, li_1431655765, li_858993459, li_252645135, eqb_j, ltb_j, leb_j, inb_j, ix_j, ix_n, nz_b, nz_0, nz_1, eqb_b, bnot, vI_ne, vI_eq, gIL, gLI, gIR, gRI, gLR, gRL, Int.reduceLT, Int.reduceLE, Int.reduceEq, Int.reduceAdd, Int.reduceSub, Int.reduceMul, Int.reduceNeg, Int.reduceToNat, Nat.reduceEqDiff, reduceIte, if_neg, if_pos, gI_ne, ll_0, ll_1, ll_3, ll_5, ll_9, ll_10, ll_13, ll_14, ll_19, ll_20, ll_32, ll_60, ll_126, ll_799, ll_1024, ll_1048576, ll_67108864, Zladd, Zlsub, Zlmul, Zlneg, toL, lg_lt, lg_gt, lg_le, in_s]
  simp only [bI_dec]
  by_cases g1 : 0 ≤ a ∧ a ≤ 19
  · rw [if_pos g1]
    by_cases g2 : a ≤ b ∧ b ≤ 19
    · rw [if_pos g2, if_pos (by omega)]
    · rw [if_neg g2, if_neg (by omega)]
  · rw [if_neg g1, if_neg (by omega)]
/-- counts by the reference -/
theorem laidMany_s (m : qM) (h0 : 0 ≤ vI m 98 32) (h : vI m 98 32 ≤ 40) : fX13_laidMany m = some (Zi (fb_ct (fun a => isLd (vI m) a) (vI m 98 32).toNat), m) := by
  have key : ∀ (r i f : Nat), i + r = (vI m 98 32).toNat → r < f → fX13_laidMany_4 f (Zi (fb_ct (fun a => isLd (vI m) a) i)) (Zi i) m = some (Zi (fb_ct (fun a => isLd (vI m) a) (vI m 98 32).toNat), m) := by
    intro r
    induction r with
    | zero =>
      intro i f hi hf
      obtain ⟨f, rfl⟩ : ∃ f', f = f' + 1 := ⟨f - 1, by omega⟩
      simp (disch := omega) only [fX13_laidMany_4, qbI_s, qbL_s, qbV_s, qbR_s, qbR_n, qbN_s, qbN_n, qbIX_s, qbIX_n, qbVX_s, qbVX_n, cond_true, cond_false, cond_dec, jadd, jsub, jmul, jneg, li_0, li_1, li_2, li_3, li_4, li_5, li_6, li_7, li_8, li_9, li_10, li_14, li_15, li_16, li_19, li_20, li_24, li_30, li_31, li_32, li_39, li_40, li_48, li_57, li_59, li_60, li_63, li_65, li_80, li_81, li_90, li_97, li_99, li_100, li_122, li_126, li_127, li_150, li_160, li_200, li_225, li_255, li_400, li_799, li_800, li_999, li_2400, li_3239, li_3240, li_1048575, li_1431655765, li_858993459, li_252645135, eqb_j, ltb_j, leb_j, inb_j, ix_j, ix_n, nz_b, nz_0, nz_1, eqb_b, bnot, vI_ne, vI_eq, gIL, gLI, gIR, gRI, gLR, gRL, Int.reduceLT, Int.reduceLE, Int.reduceEq, Int.reduceAdd, Int.reduceSub, Int.reduceMul, Int.reduceNeg, Int.reduceToNat, Nat.reduceEqDiff, reduceIte, if_neg, if_pos, gI_ne, gIv 98]
      rw [show i = (vI m 98 32).toNat by omega]
    | succ r ih =>
      intro i f hi hf
      obtain ⟨f, rfl⟩ : ∃ f', f = f' + 1 := ⟨f - 1, by omega⟩
      have hb := vI_r m 125 i
      have hct := fb_ct_le (fun a => isLd (vI m) a) i
      have ih2 := ih (i + 1) f (by omega) (by omega)
      rw [fb_ct_succ] at ih2
      simp (disch := omega) only [fX13_laidMany_4, fX13_laidMany_18, qbI_s, qbL_s, qbV_s, qbR_s, qbR_n, qbN_s, qbN_n, qbIX_s, qbIX_n, qbVX_s, qbVX_n, cond_true, cond_false, cond_dec, jadd, jsub, jmul, jneg, li_0, li_1, li_2, li_3, li_4, li_5, li_6, li_7, li_8, li_9, li_10, li_14, li_15, li_16, li_19, li_20, li_24, li_30, li_31, li_32, li_39, li_40, li_48, li_57, li_59, li_60, li_63, li_65, li_80, li_81, li_90, li_97, li_99, li_100, li_122, li_126, li_127, li_150, li_160, li_200, li_225, li_255, li_400, li_799, li_800, li_999, li_2400, li_3239, li_3240, li_1048575, li_1431655765, li_858993459, li_252645135, eqb_j, ltb_j, leb_j, inb_j, ix_j, ix_n, nz_b, nz_0, nz_1, eqb_b, bnot, vI_ne, vI_eq, gIL, gLI, gIR, gRI, gLR, gRL, Int.reduceLT, Int.reduceLE, Int.reduceEq, Int.reduceAdd, Int.reduceSub, Int.reduceMul, Int.reduceNeg, Int.reduceToNat, Nat.reduceEqDiff, reduceIte, if_neg, if_pos, gI_ne, gIv 98, gIv 125]
      rw [← ih2]
      by_cases g : vI m 125 i = -1
      · rw [if_pos g, if_neg (by simp [isLd, g])]
        congr 2
      · rw [if_neg g, if_pos (by simp [isLd, g])]
        congr 2
  rw [fX13_laidMany_d]
  simp only [fX13_laidMany_0]
  exact key (vI m 98 32).toNat 0 FU (by omega) (by rw [FU_d]; omega)
