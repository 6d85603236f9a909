/-! from kit/laws: bits, counts (pasted families) -/
/-! ===== Int32 by its bits: bt x i ===== -/
def bt (x : Int32) (i : Nat) : Bool := x.toBitVec.getLsbD i
theorem b_ext {x y : Int32} (h : ∀ i, i < 32 → bt x i = bt y i) : x = y := Int32.toBitVec_inj.mp (BitVec.eq_of_getLsbD_eq (fun i hi => h i hi))
theorem b_or (x y : Int32) (i : Nat) : bt (x ||| y) i = (bt x i || bt y i) := by unfold bt; rw [Int32.toBitVec_or, BitVec.getLsbD_or]
theorem b_and (x y : Int32) (i : Nat) : bt (x &&& y) i = (bt x i && bt y i) := by unfold bt; rw [Int32.toBitVec_and, BitVec.getLsbD_and]
theorem b_xor (x y : Int32) (i : Nat) : bt (x ^^^ y) i = (bt x i ^^ bt y i) := by unfold bt; rw [Int32.toBitVec_xor, BitVec.getLsbD_xor]
theorem b_big {x : Int32} {i : Nat} (h : 32 ≤ i) : bt x i = false := BitVec.getLsbD_of_ge _ _ h
theorem b_255 (i : Nat) : bt 255 i = decide (i < 8) := by
  rcases Nat.lt_or_ge i 32 with h | h
  · exact (by decide +kernel : ∀ i, i < 32 → bt 255 i = decide (i < 8)) i h
  · rw [b_big h, decide_eq_false (by omega)]
theorem b_65535 (i : Nat) : bt 65535 i = decide (i < 16) := by
  rcases Nat.lt_or_ge i 32 with h | h
  · exact (by decide +kernel : ∀ i, i < 32 → bt 65535 i = decide (i < 16)) i h
  · rw [b_big h, decide_eq_false (by omega)]
theorem b_m1 : ∀ i, i < 32 → bt (-1) i = true := by decide +kernel
theorem b_0 (i : Nat) : bt 0 i = false := BitVec.getLsbD_zero
theorem s_l : ∀ n, n < 32 → ((nI n &&& 31).toBitVec.smod 32).toNat = n := by decide +kernel
theorem s_u : ∀ n, n < 32 → (((nI n).toUInt32 &&& Int32.toUInt32 31).toBitVec % 32).toNat = n := by decide +kernel
theorem b_shl (n : Nat) (hn : n < 32) (x : Int32) {i : Nat} (hi : i < 32) : bt (x <<< (nI n &&& 31)) i = (decide (n ≤ i) && bt x (i - n)) := by
  unfold bt
  rw [Int32.toBitVec_shiftLeft]
  show (x.toBitVec <<< ((nI n &&& 31).toBitVec.smod 32).toNat).getLsbD i = _
  rw [s_l n hn, BitVec.getLsbD_shiftLeft]
  rcases Nat.lt_or_ge i n with h | h
  · simp [h, Nat.not_le.mpr h]
  · simp [hi, h, Nat.not_lt.mpr h]
theorem b_ushr (n : Nat) (hn : n < 32) (x : Int32) (i : Nat) : bt ((x.toUInt32 >>> ((nI n).toUInt32 &&& Int32.toUInt32 31)).toInt32) i = bt x (n + i) := by
  show (x.toUInt32 >>> ((nI n).toUInt32 &&& Int32.toUInt32 31)).toBitVec.getLsbD i = x.toUInt32.toBitVec.getLsbD (n + i)
  rw [UInt32.toBitVec_shiftRight]
  show (x.toUInt32.toBitVec >>> (((nI n).toUInt32 &&& Int32.toUInt32 31).toBitVec % 32).toNat).getLsbD i = _
  rw [s_u n hn, BitVec.getLsbD_ushiftRight]
theorem b_sshr (n : Nat) (hn : n < 32) (x : Int32) {i : Nat} (hi : i < 32) : bt (x >>> (nI n &&& 31)) i = if n + i < 32 then bt x (n + i) else bt x 31 := by
  unfold bt
  rw [Int32.toBitVec_shiftRight]
  show (x.toBitVec.sshiftRight ((nI n &&& 31).toBitVec.smod 32).toNat).getLsbD i = _
  rw [s_l n hn, BitVec.getLsbD_sshiftRight, BitVec.msb_eq_getLsbD_last]
  simp [hi]
theorem b_shl8 (x : Int32) {i : Nat} (hi : i < 32) : bt (x <<< ((8 : Int32) &&& 31)) i = (decide (8 ≤ i) && bt x (i - 8)) := b_shl 8 (by omega) x hi
theorem b_shl16 (x : Int32) {i : Nat} (hi : i < 32) : bt (x <<< ((16 : Int32) &&& 31)) i = (decide (16 ≤ i) && bt x (i - 16)) := b_shl 16 (by omega) x hi
theorem b_shl24 (x : Int32) {i : Nat} (hi : i < 32) : bt (x <<< ((24 : Int32) &&& 31)) i = (decide (24 ≤ i) && bt x (i - 24)) := b_shl 24 (by omega) x hi
theorem b_sshr8 (x : Int32) {i : Nat} (hi : i < 32) : bt (x >>> ((8 : Int32) &&& 31)) i = if 8 + i < 32 then bt x (8 + i) else bt x 31 := b_sshr 8 (by omega) x hi
theorem fa_and (a b : Nat) : nI a &&& nI b = nI (a &&& b) := by
  apply Int32.toBitVec_inj.1
  show BitVec.ofNat 32 a &&& BitVec.ofNat 32 b = BitVec.ofNat 32 (a &&& b)
  apply BitVec.eq_of_getLsbD_eq
  intro i hi
  simp [hi]
theorem fa_or (a b : Nat) : nI a ||| nI b = nI (a ||| b) := by
  apply Int32.toBitVec_inj.1
  show BitVec.ofNat 32 a ||| BitVec.ofNat 32 b = BitVec.ofNat 32 (a ||| b)
  apply BitVec.eq_of_getLsbD_eq
  intro i hi
  simp [hi]
/-! ===== how many places have a property ===== -/
def fb_ct (p : Nat → Bool) : Nat → Nat
  | 0 => 0
  | n + 1 => fb_ct p n + (if p n then 1 else 0)
theorem fb_ct_succ (p : Nat → Bool) (n : Nat) : fb_ct p (n + 1) = fb_ct p n + (if p n then 1 else 0) := rfl
theorem fb_ct_le (p : Nat → Bool) : ∀ n, fb_ct p n ≤ n
  | 0 => Nat.le_refl _
  | n + 1 => by
    have h := fb_ct_le p n
    rw [fb_ct_succ]
    split <;> omega
theorem fb_ct_step (p : Nat → Bool) (m : Nat) : ∀ n, fb_ct p m ≤ fb_ct p (m + n)
  | 0 => Nat.le_refl _
  | n + 1 => by
    have h := fb_ct_step p m n
    show fb_ct p m ≤ fb_ct p (m + n + 1)
    rw [fb_ct_succ]
    omega
theorem fb_ct_mono (p : Nat → Bool) {m n : Nat} (h : m ≤ n) : fb_ct p m ≤ fb_ct p n := by
  have := fb_ct_step p m (n - m)
  rwa [Nat.add_sub_cancel' h] at this
theorem fb_ct_cong {p q : Nat → Bool} : ∀ {n : Nat}, (∀ k, k < n → p k = q k) → fb_ct p n = fb_ct q n
  | 0, _ => rfl
  | n + 1, h => by
    rw [fb_ct_succ, fb_ct_succ, fb_ct_cong (fun k hk => h k (by omega)), h n (by omega)]
/-- one place changed -/
theorem fb_ct_out (p : Nat → Bool) (b : Bool) {i n : Nat} (h : n ≤ i) : fb_ct (fun k => if k = i then b else p k) n = fb_ct p n :=
  fb_ct_cong fun k hk => if_neg (by omega)
theorem fb_ct_upd (p : Nat → Bool) (b : Bool) {i : Nat} : ∀ {n : Nat}, i < n → fb_ct (fun k => if k = i then b else p k) n + (if p i then 1 else 0) = fb_ct p n + (if b then 1 else 0)
  | 0, h => absurd h (Nat.not_lt_zero i)
  | n + 1, h => by
    rw [fb_ct_succ, fb_ct_succ]
    rcases Nat.lt_or_ge i n with q | q
    · have := fb_ct_upd p b q
      have e : (if n = i then b else p n) = p n := if_neg (by omega)
      rw [e]
      omega
    · have e : i = n := by omega
      subst e
      rw [fb_ct_out p b (Nat.le_refl _)]
      simp only [if_true]
      omega
theorem fb_ct_sub {p q : Nat → Bool} : ∀ {n : Nat}, (∀ k, k < n → p k = true → q k = true) → fb_ct p n ≤ fb_ct q n
  | 0, _ => Nat.le_refl _
  | n + 1, h => by
    have h1 := fb_ct_sub (n := n) (p := p) (q := q) (fun k hk => h k (by omega))
    have h2 := h n (by omega)
    rw [fb_ct_succ, fb_ct_succ]
    cases hp : p n <;> cases hq : q n <;> simp_all <;> omega
theorem fb_ct_or {p q : Nat → Bool} : ∀ {n : Nat}, (∀ k, k < n → ¬ (p k = true ∧ q k = true)) → fb_ct (fun k => p k || q k) n = fb_ct p n + fb_ct q n
  | 0, _ => rfl
  | n + 1, h => by
    have h1 := fb_ct_or (n := n) (p := p) (q := q) (fun k hk => h k (by omega))
    have h2 := h n (by omega)
    rw [fb_ct_succ, fb_ct_succ, fb_ct_succ, h1]
    cases hp : p n <;> cases hq : q n <;> simp_all <;> omega
theorem fb_ct_not (p : Nat → Bool) : ∀ n, fb_ct p n + fb_ct (fun k => !p k) n = n
  | 0 => rfl
  | n + 1 => by
    have h := fb_ct_not p n
    rw [fb_ct_succ, fb_ct_succ]
    cases p n <;> simp <;> omega
theorem fb_ct_split (p : Nat → Bool) (m : Nat) : ∀ n, fb_ct p (m + n) = fb_ct p m + fb_ct (fun k => p (m + k)) n
  | 0 => rfl
  | n + 1 => by
    have h := fb_ct_split p m n
    show fb_ct p (m + n + 1) = _
    rw [fb_ct_succ, fb_ct_succ, h, Nat.add_assoc]
theorem fb_ct_zero {p : Nat → Bool} : ∀ {n : Nat}, fb_ct p n = 0 ↔ ∀ k, k < n → p k = false
  | 0 => ⟨fun _ k hk => absurd hk (Nat.not_lt_zero k), fun _ => rfl⟩
  | n + 1 => by
    have h := fb_ct_zero (p := p) (n := n)
    rw [fb_ct_succ]
    constructor
    · intro e k hk
      have e1 : fb_ct p n = 0 := by omega
      rcases Nat.lt_or_ge k n with q | q
      · exact h.mp e1 k q
      · have ek : k = n := by omega
        subst ek
        cases hp : p k
        · rfl
        · simp [hp] at e
    · intro a
      rw [h.mpr (fun k hk => a k (by omega)), a n (by omega)]
      rfl
theorem fb_ct_pos {p : Nat → Bool} {n : Nat} : 0 < fb_ct p n ↔ ∃ k, k < n ∧ p k = true := by
  constructor
  · intro h
    refine Classical.byContradiction fun hx => ?_
    have := fb_ct_zero.mpr (fun k hk => by
      cases hp : p k
      · rfl
      · exact absurd ⟨k, hk, hp⟩ hx : ∀ k, k < n → p k = false)
    omega
  · rintro ⟨k, hk, hp⟩
    rcases Nat.eq_zero_or_pos (fb_ct p n) with e | e
    · have := fb_ct_zero.mp e k hk
      rw [this] at hp
      cases hp
    · exact e
theorem fb_ct_all {p : Nat → Bool} {n : Nat} : fb_ct p n = n ↔ ∀ k, k < n → p k = true := by
  have h := fb_ct_not p n
  constructor
  · intro e k hk
    have z : fb_ct (fun k => !p k) n = 0 := by omega
    have := fb_ct_zero.mp z k hk
    cases hp : p k
    · simp [hp] at this
    · rfl
  · intro a
    have z : fb_ct (fun k => !p k) n = 0 := fb_ct_zero.mpr (fun k hk => by simp [a k hk])
    omega
/-- the k-th place with the property -/
theorem fb_ct_kth {p : Nat → Bool} {k : Nat} : ∀ {n : Nat}, k < fb_ct p n → ∃ i, i < n ∧ p i = true ∧ fb_ct p i = k
  | 0, h => absurd h (Nat.not_lt_zero k)
  | n + 1, h => by
    rcases Nat.lt_or_ge k (fb_ct p n) with q | q
    · obtain ⟨i, h1, h2⟩ := fb_ct_kth q
      exact ⟨i, by omega, h2⟩
    · rw [fb_ct_succ] at h
      cases hp : p n
      · simp [hp] at h; omega
      · simp [hp] at h
        exact ⟨n, by omega, hp, by omega⟩
theorem fb_ct_kth_one {p : Nat → Bool} {i j : Nat} (hi : p i = true) (hj : p j = true) (e : fb_ct p i = fb_ct p j) : i = j := by
  have key : ∀ a b : Nat, a < b → p a = true → fb_ct p a < fb_ct p b := by
    intro a b hab ha
    have h := fb_ct_mono p (show a + 1 ≤ b from hab)
    rw [fb_ct_succ, ha] at h
    simp at h
    omega
  rcases Nat.lt_trichotomy i j with q | q | q
  · have := key i j q hi; omega
  · exact q
  · have := key j i q hj; omega
/-! ===== sums over a range: one place changed, parts, bounds ===== -/
def fb_sm (f : Nat → Nat) : Nat → Nat
  | 0 => 0
  | n + 1 => fb_sm f n + f n
theorem fb_sm_succ (f : Nat → Nat) (n : Nat) : fb_sm f (n + 1) = fb_sm f n + f n := rfl
theorem fb_sm_cong {f g : Nat → Nat} : ∀ {n : Nat}, (∀ k, k < n → f k = g k) → fb_sm f n = fb_sm g n
  | 0, _ => rfl
  | n + 1, h => by rw [fb_sm_succ, fb_sm_succ, fb_sm_cong (fun k hk => h k (by omega)), h n (by omega)]
theorem fb_sm_out (f : Nat → Nat) (v : Nat) {i n : Nat} (h : n ≤ i) : fb_sm (fun k => if k = i then v else f k) n = fb_sm f n :=
  fb_sm_cong fun k hk => if_neg (by omega)
theorem fb_sm_upd (f : Nat → Nat) (v : Nat) {i : Nat} : ∀ {n : Nat}, i < n → fb_sm (fun k => if k = i then v else f k) n + f i = fb_sm f n + v
  | 0, h => absurd h (Nat.not_lt_zero i)
  | n + 1, h => by
    rw [fb_sm_succ, fb_sm_succ]
    rcases Nat.lt_or_ge i n with q | q
    · have := fb_sm_upd f v q
      have e : (if n = i then v else f n) = f n := if_neg (by omega)
      rw [e]
      omega
    · have e : i = n := by omega
      subst e
      rw [fb_sm_out f v (Nat.le_refl _)]
      simp only [if_true]
      omega
theorem fb_sm_add (f g : Nat → Nat) : ∀ n, fb_sm (fun k => f k + g k) n = fb_sm f n + fb_sm g n
  | 0 => rfl
  | n + 1 => by
    have h := fb_sm_add f g n
    rw [fb_sm_succ, fb_sm_succ, fb_sm_succ, h]
    omega
theorem fb_sm_le {f g : Nat → Nat} : ∀ {n : Nat}, (∀ k, k < n → f k ≤ g k) → fb_sm f n ≤ fb_sm g n
  | 0, _ => Nat.le_refl _
  | n + 1, h => by
    have h1 := fb_sm_le (n := n) (f := f) (g := g) (fun k hk => h k (by omega))
    have h2 := h n (by omega)
    rw [fb_sm_succ, fb_sm_succ]
    omega
theorem fb_sm_const (c : Nat) : ∀ n, fb_sm (fun _ => c) n = n * c
  | 0 => by rw [Nat.zero_mul]; rfl
  | n + 1 => by rw [fb_sm_succ, fb_sm_const c n, Nat.succ_mul]
theorem fb_sm_bound {f : Nat → Nat} {c n : Nat} (h : ∀ k, k < n → f k ≤ c) : fb_sm f n ≤ n * c := by
  rw [← fb_sm_const c n]
  exact fb_sm_le h
theorem fb_sm_mono (f : Nat → Nat) (m : Nat) : ∀ n, fb_sm f m ≤ fb_sm f (m + n)
  | 0 => Nat.le_refl _
  | n + 1 => by
    have h := fb_sm_mono f m n
    show fb_sm f m ≤ fb_sm f (m + n + 1)
    rw [fb_sm_succ]
    omega
theorem fb_sm_part (f : Nat → Nat) {i n : Nat} (h : i < n) : fb_sm f i + f i ≤ fb_sm f n := by
  have := fb_sm_mono f (i + 1) (n - (i + 1))
  rw [fb_sm_succ, show i + 1 + (n - (i + 1)) = n by omega] at this
  exact this
theorem fb_sm_split (f : Nat → Nat) (m : Nat) : ∀ n, fb_sm f (m + n) = fb_sm f m + fb_sm (fun k => f (m + k)) n
  | 0 => rfl
  | n + 1 => by
    have h := fb_sm_split f m n
    show fb_sm f (m + n + 1) = _
    rw [fb_sm_succ, fb_sm_succ, h, Nat.add_assoc]
theorem fb_sm_zero {f : Nat → Nat} {n : Nat} (h : fb_sm f n = 0) : ∀ k, k < n → f k = 0 := fun k hk => by
  have := fb_sm_part f hk
  omega
/-- the same over whole numbers -/
def fb_si (f : Nat → Int) : Nat → Int
  | 0 => 0
  | n + 1 => fb_si f n + f n
theorem fb_si_succ (f : Nat → Int) (n : Nat) : fb_si f (n + 1) = fb_si f n + f n := rfl
theorem fb_si_cong {f g : Nat → Int} : ∀ {n : Nat}, (∀ k, k < n → f k = g k) → fb_si f n = fb_si g n
  | 0, _ => rfl
  | n + 1, h => by rw [fb_si_succ, fb_si_succ, fb_si_cong (fun k hk => h k (by omega)), h n (by omega)]
theorem fb_si_out (f : Nat → Int) (v : Int) {i n : Nat} (h : n ≤ i) : fb_si (fun k => if k = i then v else f k) n = fb_si f n :=
  fb_si_cong fun k hk => if_neg (by omega)
theorem fb_si_upd (f : Nat → Int) (v : Int) {i : Nat} : ∀ {n : Nat}, i < n → fb_si (fun k => if k = i then v else f k) n = fb_si f n - f i + v
  | 0, h => absurd h (Nat.not_lt_zero i)
  | n + 1, h => by
    rw [fb_si_succ, fb_si_succ]
    rcases Nat.lt_or_ge i n with q | q
    · have := fb_si_upd f v q
      have e : (if n = i then v else f n) = f n := if_neg (by omega)
      rw [e]
      omega
    · have e : i = n := by omega
      subst e
      rw [fb_si_out f v (Nat.le_refl _)]
      simp only [if_true]
      omega
theorem fb_si_add (f g : Nat → Int) : ∀ n, fb_si (fun k => f k + g k) n = fb_si f n + fb_si g n
  | 0 => rfl
  | n + 1 => by
    have h := fb_si_add f g n
    rw [fb_si_succ, fb_si_succ, fb_si_succ, h]
    omega
theorem fb_si_sub (f g : Nat → Int) : ∀ n, fb_si (fun k => f k - g k) n = fb_si f n - fb_si g n
  | 0 => rfl
  | n + 1 => by
    have h := fb_si_sub f g n
    rw [fb_si_succ, fb_si_succ, fb_si_succ, h]
    omega
theorem fb_si_mul (c : Int) (f : Nat → Int) : ∀ n, fb_si (fun k => c * f k) n = c * fb_si f n
  | 0 => (Int.mul_zero c).symm
  | n + 1 => by
    have h := fb_si_mul c f n
    rw [fb_si_succ, fb_si_succ, h, Int.mul_add]
theorem fb_si_split (f : Nat → Int) (m : Nat) : ∀ n, fb_si f (m + n) = fb_si f m + fb_si (fun k => f (m + k)) n
  | 0 => (Int.add_zero _).symm
  | n + 1 => by
    have h := fb_si_split f m n
    show fb_si f (m + n + 1) = _
    rw [fb_si_succ, fb_si_succ, h, Int.add_assoc]
theorem fb_si_nat (f : Nat → Nat) : ∀ n, fb_si (fun k => (f k : Int)) n = (fb_sm f n : Int)
  | 0 => rfl
  | n + 1 => by
    have h := fb_si_nat f n
    rw [fb_si_succ, fb_sm_succ, h]
    omega
theorem fb_si_bound {f : Nat → Int} {c : Int} (hc : 0 ≤ c) : ∀ {n : Nat}, (∀ k, k < n → -c ≤ f k ∧ f k ≤ c) → -(n * c) ≤ fb_si f n ∧ fb_si f n ≤ n * c
  | 0, _ => by simp [fb_si]
  | n + 1, h => by
    have h1 := fb_si_bound (n := n) (f := f) hc (fun k hk => h k (by omega))
    have h2 := h n (by omega)
    have e : ((n + 1 : Nat) : Int) * c = n * c + c := by rw [Int.natCast_add, Int.add_mul]; simp
    rw [fb_si_succ, e]
    omega
/-! ===== the least, the first, the best so far; that there is one alone ===== -/
theorem fb_first {p : Nat → Prop} [DecidablePred p] : ∀ {n : Nat}, (∃ i, i < n ∧ p i) → ∃ i, i < n ∧ p i ∧ ∀ j, j < i → ¬ p j
  | 0, h => by obtain ⟨i, hi, -⟩ := h; exact absurd hi (Nat.not_lt_zero i)
  | n + 1, h => by
    by_cases q : ∃ i, i < n ∧ p i
    · obtain ⟨i, h1, h2⟩ := fb_first q
      exact ⟨i, by omega, h2⟩
    · obtain ⟨i, h1, h2⟩ := h
      have e : i = n := by
        rcases Nat.lt_or_ge i n with r | r
        · exact absurd ⟨i, r, h2⟩ q
        · omega
      subst e
      exact ⟨i, by omega, h2, fun j hj hp => q ⟨j, hj, hp⟩⟩
theorem fb_first_one {p : Nat → Prop} {i j : Nat} (hi : p i) (hi2 : ∀ k, k < i → ¬ p k) (hj : p j) (hj2 : ∀ k, k < j → ¬ p k) : i = j := by
  rcases Nat.lt_trichotomy i j with q | q | q
  · exact absurd hi (hj2 i q)
  · exact q
  · exact absurd hj (hi2 j q)
theorem fb_last {p : Nat → Prop} [DecidablePred p] : ∀ {n : Nat}, (∃ i, i < n ∧ p i) → ∃ i, i < n ∧ p i ∧ ∀ j, i < j → j < n → ¬ p j
  | 0, h => by obtain ⟨i, hi, -⟩ := h; exact absurd hi (Nat.not_lt_zero i)
  | n + 1, h => by
    by_cases q : p n
    · exact ⟨n, by omega, q, fun j h1 h2 => by omega⟩
    · obtain ⟨i, h1, h2⟩ := h
      have hi : i < n := by
        rcases Nat.lt_or_ge i n with r | r
        · exact r
        · have e : i = n := by omega
          subst e
          exact absurd h2 q
      obtain ⟨i2, a1, a2, a3⟩ := fb_last (n := n) ⟨i, hi, h2⟩
      refine ⟨i2, by omega, a2, fun j b1 b2 => ?_⟩
      rcases Nat.lt_or_ge j n with r | r
      · exact a3 j b1 r
      · have e : j = n := by omega
        subst e
        exact q
/-- the first greatest -/
theorem fb_best (f : Nat → Int) : ∀ {n : Nat}, 0 < n → ∃ i, i < n ∧ (∀ j, j < n → f j ≤ f i) ∧ ∀ j, j < i → f j < f i
  | 0, h => absurd h (Nat.lt_irrefl 0)
  | 1, _ => ⟨0, by omega, fun j hj => by have e : j = 0 := by omega
                                         subst e; exact Int.le_refl _, fun j hj => absurd hj (Nat.not_lt_zero j)⟩
  | n + 2, _ => by
    obtain ⟨i, h1, h2, h3⟩ := fb_best f (n := n + 1) (by omega)
    by_cases q : f i < f (n + 1)
    · refine ⟨n + 1, by omega, fun j hj => ?_, fun j hj => ?_⟩
      · rcases Nat.lt_or_ge j (n + 1) with r | r
        · have := h2 j r; omega
        · have e : j = n + 1 := by omega
          subst e; exact Int.le_refl _
      · have := h2 j hj; omega
    · refine ⟨i, by omega, fun j hj => ?_, h3⟩
      rcases Nat.lt_or_ge j (n + 1) with r | r
      · exact h2 j r
      · have e : j = n + 1 := by omega
        subst e; omega
theorem fb_best_one {f : Nat → Int} {n i j : Nat} (hi : i < n) (hi2 : ∀ k, k < n → f k ≤ f i) (hi3 : ∀ k, k < i → f k < f i) (hj : j < n) (hj2 : ∀ k, k < n → f k ≤ f j) (hj3 : ∀ k, k < j → f k < f j) : i = j := by
  rcases Nat.lt_trichotomy i j with q | q | q
  · have a := hj3 i q
    have b := hi2 j hj
    omega
  · exact q
  · have a := hi3 j q
    have b := hj2 i hi
    omega
/-- the first least -/
theorem fb_low (f : Nat → Int) {n : Nat} (h : 0 < n) : ∃ i, i < n ∧ (∀ j, j < n → f i ≤ f j) ∧ ∀ j, j < i → f i < f j := by
  obtain ⟨i, h1, h2, h3⟩ := fb_best (fun k => -f k) h
  exact ⟨i, h1, fun j hj => by have := h2 j hj; omega, fun j hj => by have := h3 j hj; omega⟩
/-! numbers and bits -/
theorem Zn (n : Nat) : Zi (n : Int) = nI n := by
  apply Int32.toBitVec_inj.mp
  show BitVec.ofInt 32 (n : Int) = BitVec.ofNat 32 n
  exact BitVec.ofInt_natCast 32 n
theorem bt_n (n i : Nat) : bt (nI n) i = (decide (i < 32) && n.testBit i) := by
  show (BitVec.ofNat 32 n).getLsbD i = _
  rw [BitVec.getLsbD_ofNat]
theorem bn_of (x : Int32) : ∃ n, n < 4294967296 ∧ x = nI n := ⟨x.toBitVec.toNat, x.toBitVec.isLt, Int32.toBitVec_inj.mp (by show _ = BitVec.ofNat 32 _; simp)⟩
theorem bn_add (a b : Nat) : nI a + nI b = nI (a + b) := by rw [← Zn, ← Zn, ← Zn, jadd]; congr 1
theorem nI_sub {a b : Nat} (h : b ≤ a) : nI a - nI b = nI (a - b) := by
  rw [← Zn, ← Zn, ← Zn, jsub]
  congr 1
  omega
theorem ush_n {n j : Nat} (hn : n < 4294967296) (hj : j < 32) : ((nI n).toUInt32 >>> ((nI j).toUInt32 &&& Int32.toUInt32 31)).toInt32 = nI (n / 2 ^ j) := by
  apply b_ext
  intro i hi
  rw [b_ushr j hj, bt_n, bt_n, Nat.testBit_div_two_pow]
  by_cases h : j + i < 32
  · simp [h, hi, Nat.add_comm]
  · rw [decide_eq_false h, Nat.testBit_lt_two_pow (i := i + j) (Nat.lt_of_lt_of_le (show n < 2 ^ 32 from hn) (Nat.pow_le_pow_right (by decide) (by omega)))]
    simp
theorem and_256 {r q c d : Nat} (hr : r < 256) (hc : c < 256) : (r + 256 * q) &&& (c + 256 * d) = (r &&& c) + 256 * (q &&& d) := by
  have h1 := Nat.and_mod_two_pow (a := r + 256 * q) (b := c + 256 * d) (n := 8)
  have h2 := Nat.and_div_two_pow (a := r + 256 * q) (b := c + 256 * d) (n := 8)
  rw [show (2 : Nat) ^ 8 = 256 from rfl] at h1 h2
  rw [show (r + 256 * q) % 256 = r by omega, show (c + 256 * d) % 256 = c by omega] at h1
  rw [show (r + 256 * q) / 256 = q by omega, show (c + 256 * d) / 256 = d by omega] at h2
  omega
def py (r : Nat) : Nat := r - ((r / 2) &&& 85)
def pz (y : Nat) : Nat := (y &&& 51) + ((y / 4) &&& 51)
def pp (z : Nat) : Nat := (z + z / 16) &&& 15
theorem p_1 : ∀ r, r < 256 → ((r / 2) &&& 85 ≤ r ∧ (r / 2 + 128) &&& 85 = (r / 2) &&& 85 ∧ py r < 256) := by decide +kernel
theorem p_2 : ∀ y, y < 256 → ∀ b, b < 4 → (y / 4 + 64 * b) &&& 51 = (y / 4) &&& 51 := by decide +kernel
theorem p_3 : ∀ r, r < 256 → (pz (py r) % 16 ≤ 4 ∧ pz (py r) / 16 ≤ 4 ∧ pp (pz (py r)) = fb_ct (fun i => r.testBit i) 8) := by decide +kernel
theorem p_4 : ∀ z, z < 69 → ∀ b, b < 5 → (z + z / 16 + 16 * b) &&& 15 = (z + z / 16) &&& 15 := by decide +kernel
theorem p_1' {r b : Nat} (hr : r < 256) : (r / 2 + 128 * (b % 2)) &&& 85 = (r / 2) &&& 85 := by
  rcases Nat.mod_two_eq_zero_or_one b with h | h
  · rw [h, Nat.mul_zero, Nat.add_zero]
  · rw [h]; exact (p_1 r hr).2.1
theorem and_4 {a b c d x : Nat} (ha : a < 256) (hb : b < 256) (hc : c < 256) (hd : d < 256) (hx : x < 256) : (a + 256 * (b + 256 * (c + 256 * d))) &&& (x + 256 * (x + 256 * (x + 256 * x))) = (a &&& x) + 256 * ((b &&& x) + 256 * ((c &&& x) + 256 * (d &&& x))) := by
  rw [and_256 ha hx, and_256 hb hx, and_256 hc hx]
theorem tb_low {r q i : Nat} (hr : r < 256) (hi : i < 8) : (r + 256 * q).testBit i = r.testBit i := by
  have h : (r + 256 * q) % 2 ^ 8 = r := by rw [show (2 : Nat) ^ 8 = 256 from rfl]; omega
  have h2 := Nat.testBit_mod_two_pow (r + 256 * q) 8 i
  rw [h] at h2
  rw [h2, decide_eq_true hi, Bool.true_and]
theorem tb_high {r q i : Nat} (hr : r < 256) : (r + 256 * q).testBit (8 + i) = q.testBit i := by
  have h : (r + 256 * q) / 2 ^ 8 = q := by rw [show (2 : Nat) ^ 8 = 256 from rfl]; omega
  have h2 := Nat.testBit_div_two_pow (r + 256 * q) (n := 8) (i := i)
  rw [h] at h2
  rw [h2, Nat.add_comm 8 i]
theorem ct_byte {r q : Nat} (n : Nat) (hr : r < 256) : fb_ct (fun i => (r + 256 * q).testBit i) (8 + n) = fb_ct (fun i => r.testBit i) 8 + fb_ct (fun i => q.testBit i) n := by
  rw [fb_ct_split]
  rw [fb_ct_cong (p := fun i => (r + 256 * q).testBit i) (q := fun i => r.testBit i) (fun k hk => tb_low hr hk)]
  rw [fb_ct_cong (p := fun k => (r + 256 * q).testBit (8 + k)) (q := fun i => q.testBit i) (fun k hk => tb_high hr)]
def popc (x : Int32) : Nat := fb_ct (fun i => bt x i) 32
set_option maxRecDepth 20000 in
theorem popc_s (x : Int32) (m : qM) : fJ6_bitCount_0f7a4 x m = some (Zi (popc x : Int), m) := by
  obtain ⟨n, hn, rfl⟩ := bn_of x
  obtain ⟨r0, r1, r2, r3, h0, h1, h2, h3, rfl⟩ : ∃ r0 r1 r2 r3, r0 < 256 ∧ r1 < 256 ∧ r2 < 256 ∧ r3 < 256 ∧ n = r0 + 256 * (r1 + 256 * (r2 + 256 * r3)) := ⟨n % 256, n / 256 % 256, n / 65536 % 256, n / 16777216, by omega, by omega, by omega, by omega, by omega⟩
  have hc : popc (nI (r0 + 256 * (r1 + 256 * (r2 + 256 * r3)))) = pp (pz (py r0)) + (pp (pz (py r1)) + (pp (pz (py r2)) + pp (pz (py r3)))) := by
    unfold popc
    rw [fb_ct_cong (q := fun i => (r0 + 256 * (r1 + 256 * (r2 + 256 * r3))).testBit i) (fun k hk => by rw [bt_n, decide_eq_true hk, Bool.true_and])]
    rw [ct_byte 24 h0, ct_byte 16 h1, ct_byte 8 h2, (p_3 r0 h0).2.2, (p_3 r1 h1).2.2, (p_3 r2 h2).2.2, (p_3 r3 h3).2.2]
  rw [hc, fJ6_bitCount_0f7a4_d]
  unfold fJ6_bitCount_0f7a4_0
  have a0 := p_1 r0 h0
  have a1 := p_1 r1 h1
  have a2 := p_1 r2 h2
  have a3 := p_1 r3 h3
  have e1 : nI (r0 + 256 * (r1 + 256 * (r2 + 256 * r3))) - ((((nI (r0 + 256 * (r1 + 256 * (r2 + 256 * r3)))).toUInt32 >>> ((1 : Int32).toUInt32 &&& (31 : Int32).toUInt32)).toInt32) &&& 1431655765) = nI (py r0 + 256 * (py r1 + 256 * (py r2 + 256 * py r3))) := by
    rw [show (1 : Int32) = nI 1 from rfl, ush_n hn (by decide), show (1431655765 : Int32) = nI (85 + 256 * (85 + 256 * (85 + 256 * 85))) from rfl, fa_and]
    rw [show (r0 + 256 * (r1 + 256 * (r2 + 256 * r3))) / 2 ^ 1 = (r0 / 2 + 128 * (r1 % 2)) + 256 * ((r1 / 2 + 128 * (r2 % 2)) + 256 * ((r2 / 2 + 128 * (r3 % 2)) + 256 * (r3 / 2))) by omega]
    rw [and_4 (by omega) (by omega) (by omega) (by omega) (by decide), p_1' h0, p_1' h1, p_1' h2]
    rw [nI_sub (by omega)]
    congr 1
    unfold py
    omega
  have b0 := p_3 r0 h0
  have b1 := p_3 r1 h1
  have b2 := p_3 r2 h2
  have b3 := p_3 r3 h3
  have hn1 : py r0 + 256 * (py r1 + 256 * (py r2 + 256 * py r3)) < 4294967296 := by omega
  have e2 : (nI (py r0 + 256 * (py r1 + 256 * (py r2 + 256 * py r3))) &&& 858993459) + ((((nI (py r0 + 256 * (py r1 + 256 * (py r2 + 256 * py r3)))).toUInt32 >>> ((2 : Int32).toUInt32 &&& (31 : Int32).toUInt32)).toInt32) &&& 858993459) = nI (pz (py r0) + 256 * (pz (py r1) + 256 * (pz (py r2) + 256 * pz (py r3)))) := by
    rw [show (2 : Int32) = nI 2 from rfl, ush_n hn1 (by decide), show (858993459 : Int32) = nI (51 + 256 * (51 + 256 * (51 + 256 * 51))) from rfl, fa_and, fa_and]
    rw [show (py r0 + 256 * (py r1 + 256 * (py r2 + 256 * py r3))) / 2 ^ 2 = (py r0 / 4 + 64 * (py r1 % 4)) + 256 * ((py r1 / 4 + 64 * (py r2 % 4)) + 256 * ((py r2 / 4 + 64 * (py r3 % 4)) + 256 * (py r3 / 4))) by omega]
    rw [and_4 (by omega) (by omega) (by omega) (by omega) (by decide), and_4 (by omega) (by omega) (by omega) (by omega) (by decide), p_2 _ a0.2.2 _ (by omega), p_2 _ a1.2.2 _ (by omega), p_2 _ a2.2.2 _ (by omega)]
    rw [bn_add]
    congr 1
    unfold pz
    omega
  generalize hz0 : pz (py r0) = z0 at *
  generalize hz1 : pz (py r1) = z1 at *
  generalize hz2 : pz (py r2) = z2 at *
  generalize hz3 : pz (py r3) = z3 at *
  have hn2 : z0 + 256 * (z1 + 256 * (z2 + 256 * z3)) < 4294967296 := by omega
  have e3 : (nI (z0 + 256 * (z1 + 256 * (z2 + 256 * z3))) + (((nI (z0 + 256 * (z1 + 256 * (z2 + 256 * z3)))).toUInt32 >>> ((4 : Int32).toUInt32 &&& (31 : Int32).toUInt32)).toInt32)) &&& 252645135 = nI (pp z0 + 256 * (pp z1 + 256 * (pp z2 + 256 * pp z3))) := by
    rw [show (4 : Int32) = nI 4 from rfl, ush_n hn2 (by decide), show (252645135 : Int32) = nI (15 + 256 * (15 + 256 * (15 + 256 * 15))) from rfl, bn_add, fa_and]
    rw [show z0 + 256 * (z1 + 256 * (z2 + 256 * z3)) + (z0 + 256 * (z1 + 256 * (z2 + 256 * z3))) / 2 ^ 4 = (z0 + z0 / 16 + 16 * (z1 % 16)) + 256 * ((z1 + z1 / 16 + 16 * (z2 % 16)) + 256 * ((z2 + z2 / 16 + 16 * (z3 % 16)) + 256 * (z3 + z3 / 16))) by omega]
    rw [and_4 (by omega) (by omega) (by omega) (by omega) (by decide), p_4 _ (by omega) _ (by omega), p_4 _ (by omega) _ (by omega), p_4 _ (by omega) _ (by omega)]
    rfl
  have c0 : pp z0 ≤ 8 := by rw [b0.2.2]; exact fb_ct_le _ 8
  have c1 : pp z1 ≤ 8 := by rw [b1.2.2]; exact fb_ct_le _ 8
  have c2 : pp z2 ≤ 8 := by rw [b2.2.2]; exact fb_ct_le _ 8
  have c3 : pp z3 ≤ 8 := by rw [b3.2.2]; exact fb_ct_le _ 8
  generalize pp z0 = p0 at *
  generalize pp z1 = p1 at *
  generalize pp z2 = p2 at *
  generalize pp z3 = p3 at *
  simp only []
  rw [e1, e2, e3, show (8 : Int32) = nI 8 from rfl, ush_n (by omega) (by decide), bn_add, show (16 : Int32) = nI 16 from rfl, ush_n (by omega) (by decide), bn_add, show (63 : Int32) = nI (2 ^ 6 - 1) from rfl, fa_and, Nat.and_two_pow_sub_one_eq_mod, Zn]
  have q1 : (p0 + 256 * (p1 + 256 * (p2 + 256 * p3))) / 2 ^ 8 = p1 + 256 * (p2 + 256 * p3) := by omega
  rw [q1]
  have q2 : (p0 + 256 * (p1 + 256 * (p2 + 256 * p3)) + (p1 + 256 * (p2 + 256 * p3))) / 2 ^ 16 = (p2 + p3) + 256 * p3 := by omega
  rw [q2]
  have q3 : (p0 + 256 * (p1 + 256 * (p2 + 256 * p3)) + (p1 + 256 * (p2 + 256 * p3)) + (p2 + p3 + 256 * p3)) % 2 ^ 6 = p0 + (p1 + (p2 + p3)) := by omega
  rw [q3]
theorem shr_lit (x : Int32) (n : Nat) (hn : n < 32) {i : Nat} (hi : i < 32) (h31 : bt x 31 = false) : bt (x >>> (nI n &&& 31)) i = bt x (n + i) := by
  rw [b_sshr n hn x hi]
  split
  · rfl
  · rw [h31, b_big (by omega)]
theorem b_not (x : Int32) {i : Nat} (hi : i < 32) : bt (x ^^^ (-1)) i = !bt x i := by rw [b_xor, b_m1 i hi, Bool.xor_true]
theorem b_neg (x : Int32) (i : Nat) (hi : i < 32) : bt (-x) i = (bt x i ^^ decide (∃ j, j < i ∧ bt x j = true)) := by
  show (-x).toBitVec.getLsbD i = _
  rw [Int32.toBitVec_neg, BitVec.getLsbD_neg, decide_eq_true hi, Bool.true_and]
  rfl
/-- one bit -/
theorem b_one {s : Nat} (hs : s < 32) {i : Nat} (hi : i < 32) : bt ((1 : Int32) <<< (nI s &&& 31)) i = decide (i = s) := by
  rw [b_shl s hs _ hi]
  have : ∀ k, k < 32 → bt 1 k = decide (k = 0) := by decide +kernel
  rw [this (i - s) (by omega)]
  by_cases h : i = s
  · subst h; simp
  · simp only [decide_eq_false h]
    by_cases h2 : s ≤ i
    · rw [decide_eq_false (show ¬ (i - s = 0) by omega), Bool.and_false]
    · rw [decide_eq_false h2, Bool.false_and]
theorem has_s (x : Int32) (i : Nat) (hi : i < 32) (m : qM) : fX11_has x (Zi (i : Int)) m = some (Zi (bI (bt x i)), m) := by
  rw [fX11_has_d]
  simp only [fX11_has_0]
  rw [Zn]
  have key : (eqb ((x >>> (nI i &&& 31)) &&& 1) 0) = !bt x i := by
    rw [eqb_d]
    by_cases h : bt x i = true
    · rw [h]
      refine decide_eq_false fun z => ?_
      have := congrArg (fun y => bt y 0) z
      simp only [b_and] at this
      rw [b_sshr i hi x (by decide)] at this
      simp [hi, h] at this
      exact absurd this (by decide)
    · simp only [Bool.not_eq_true] at h
      rw [h]
      refine decide_eq_true (b_ext fun j hj => ?_)
      rw [b_and, b_0]
      have : ∀ k, k < 32 → bt 1 k = decide (k = 0) := by decide +kernel
      rw [this j hj]
      by_cases e : j = 0
      · subst e
        rw [b_sshr i hi x (by decide)]
        simp [hi, h]
      · simp [e]
  rw [key, bnot]
  cases bt x i
  · show fX11_has_9 0 m = _
    unfold fX11_has_9
    exact congrArg (fun z => some (z, m)) nz_0
  · show fX11_has_9 1 m = _
    unfold fX11_has_9
    exact congrArg (fun z => some (z, m)) nz_1
theorem fb_ct_below (n : Nat) : ∀ k, k ≤ n → fb_ct (fun i => decide (i < k)) n = k := by
  induction n with
  | zero => intro k hk; have : k = 0 := by omega
            subst this; rfl
  | succ n ih =>
    intro k hk
    rw [fb_ct_succ]
    by_cases e : k = n + 1
    · subst e
      rw [fb_ct_cong (q := fun i => decide (i < n)) (fun i hi => by simp; omega), ih n (Nat.le_refl _)]
      simp
    · rw [ih k (by omega)]
      simp
      omega
/-- the least bit -/
theorem least_s (x : Int32) (i : Nat) (hi : i < 32) (h1 : bt x i = true) (h2 : ∀ j, j < i → bt x j = false) (m : qM) : fX11_leastOf x m = some (Zi (i : Int), m) := by
  have e : x &&& -x = (1 : Int32) <<< (nI i &&& 31) := by
    apply b_ext
    intro j hj
    rw [b_and, b_neg x j hj, b_one hi hj]
    rcases Nat.lt_trichotomy j i with g | g | g
    · rw [h2 j g, Bool.false_and, decide_eq_false (by omega)]
    · subst g
      rw [h1, decide_eq_true rfl, decide_eq_false (fun ⟨k, k1, k2⟩ => by rw [h2 k k1] at k2; cases k2)]
      rfl
    · rw [decide_eq_true (⟨i, g, h1⟩ : ∃ k, k < j ∧ bt x k = true), decide_eq_false (by omega)]
      cases bt x j <;> rfl
  have e2 : ∀ i, i < 32 → ((1 : Int32) <<< (nI i &&& 31)) - 1 = nI (2 ^ i - 1) := by decide +kernel
  rw [fX11_leastOf_d]
  simp only [fX11_leastOf_0]
  rw [e, e2 i hi, popc_s, qbI_s]
  congr 3
  unfold popc
  rw [fb_ct_cong (q := fun k => decide (k < i)) (fun k hk => by rw [bt_n, Nat.testBit_two_pow_sub_one, decide_eq_true hk, Bool.true_and]), fb_ct_below _ _ (by omega)]
/-- gaps: no bit here, one ahead, one behind -/
noncomputable def pd (p : Prop) : Bool := @decide p (Classical.propDecidable p)
theorem pd_iff {p : Prop} : pd p = true ↔ p := @decide_eq_true_iff p (Classical.propDecidable p)
theorem pd_t {p : Prop} (h : p) : pd p = true := pd_iff.mpr h
theorem pd_f {p : Prop} (h : ¬ p) : pd p = false := by
  cases e : pd p
  · rfl
  · exact absurd (pd_iff.mp e) h
theorem pd_dec (p : Prop) [Decidable p] : decide p = pd p := by rw [Bool.eq_iff_iff, pd_iff, decide_eq_true_eq]
noncomputable def gapB (x : Int32) (j : Nat) : Bool := !bt x j && (pd (∃ k, k < j ∧ bt x k = true) && pd (∃ k, j < k ∧ bt x k = true))
noncomputable def gapN (x : Int32) : Nat := fb_ct (gapB x) 32
theorem smear (x y : Int32) (w n : Nat) (hn : n < 32) (hw : n ≤ w) (h31 : bt x 31 = false) (hx : ∀ j, j < 32 → (bt y j = true ↔ ∃ d, d < w ∧ bt x (d + j) = true)) : ∀ j, j < 32 → (bt (y ||| (y >>> (nI n &&& 31))) j = true ↔ ∃ d, d < w + n ∧ bt x (d + j) = true) := by
  intro j hj
  have hy31 : bt y 31 = false := by
    cases h : bt y 31
    · rfl
    · obtain ⟨d, h1, h2⟩ := (hx 31 (by decide)).mp h
      by_cases e : d = 0
      · subst e; rw [Nat.zero_add, h31] at h2; cases h2
      · rw [b_big (by omega)] at h2; cases h2
  rw [b_or, shr_lit y n hn hj hy31, Bool.or_eq_true, hx j hj]
  constructor
  · rintro (⟨d, h1, h2⟩ | h)
    · exact ⟨d, by omega, h2⟩
    · by_cases g : n + j < 32
      · obtain ⟨d, h1, h2⟩ := (hx (n + j) g).mp h
        exact ⟨d + n, by omega, by rw [show d + n + j = d + (n + j) by omega]; exact h2⟩
      · rw [b_big (by omega)] at h; cases h
  · rintro ⟨d, h1, h2⟩
    by_cases g : d < w
    · exact Or.inl ⟨d, g, h2⟩
    · right
      by_cases g2 : n + j < 32
      · exact (hx (n + j) g2).mpr ⟨d - n, by omega, by rw [show d - n + (n + j) = d + j by omega]; exact h2⟩
      · rw [b_big (by omega)] at h2; cases h2
theorem gaps_s (x : Int32) (h31 : bt x 31 = false) (m : qM) : fX11_gapsIn x m = some (Zi (gapN x : Int), m) := by
  rw [fX11_gapsIn_d]
  simp only [fX11_gapsIn_0]
  rw [popc_s, qbI_s]
  congr 3
  have s1 := smear x x 1 1 (by decide) (by decide) h31 (fun j hj => ⟨fun h => ⟨0, by decide, by rwa [Nat.zero_add]⟩, fun ⟨d, h1, h2⟩ => by
    have : d = 0 := by omega
    subst this
    rwa [Nat.zero_add] at h2⟩)
  have s2 := smear x _ 2 2 (by decide) (by decide) h31 s1
  have s4 := smear x _ 4 4 (by decide) (by decide) h31 s2
  have s8 := smear x _ 8 8 (by decide) (by decide) h31 s4
  have s16 := smear x _ 16 16 (by decide) (by decide) h31 s8
  unfold popc gapN
  congr 1
  refine fb_ct_cong fun j hj => ?_
  rw [b_and, b_and, b_not x hj, b_or x (-x), b_neg x j hj]
  have g := s16 j hj
  unfold gapB
  cases hx : bt x j
  · rw [Bool.not_false, Bool.and_true, Bool.true_and, Bool.false_or, Bool.false_xor, Bool.and_comm]
    rw [pd_dec]
    congr 1
    rw [Bool.eq_iff_iff, pd_iff]
    refine Iff.trans g ⟨fun ⟨d, h1, h2⟩ => ?_, fun ⟨k, h1, h4⟩ => by
      by_cases e2 : k < 32
      · exact ⟨k - j, by omega, by rw [show k - j + j = k by omega]; exact h4⟩
      · rw [b_big (by omega)] at h4; cases h4⟩
    by_cases e : d = 0
    · subst e; rw [Nat.zero_add, hx] at h2; cases h2
    · by_cases e2 : d + j < 32
      · exact ⟨d + j, by omega, h2⟩
      · rw [b_big (by omega)] at h2; cases h2
  · simp
