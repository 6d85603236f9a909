/-! worlds of numbered cells over the heap -/
theorem qat_eq {α : Type} : ∀ (l : List α) (n : Nat), qat l n = l[n]?
  | [], n => by simp [qat]
  | a :: l, 0 => by simp [qat]
  | a :: l, n + 1 => by simp [qat, qat_eq l n]
def qset {α : Type} (l : List α) (n : Nat) (v : α) : List α := l.set n v
theorem qsetK_eq {α β : Type} : ∀ (l : List α) (n : Nat) (v : α) (k : List α → β), qsetK l n v k = k (l.set n v)
  | [], n, v, k => by simp [qsetK]
  | a :: l, 0, v, k => by simp [qsetK]
  | a :: l, n + 1, v, k => by simp [qsetK, qsetK_eq l n v]
def qpd1 (lo : qLo) (n : Nat) (v : Value) : qLo := match n with
  | 0 => lo.set 0 (some v)
  | j + 1 => match qat lo j with
    | some (some (.long _)) => (lo.set j none).set (j + 1) (some v)
    | _ => lo.set (j + 1) (some v)
/-- no double lies in the locals ahead -/
def qnd (lo : qLo) (n : Nat) : Prop := ∀ j x, n = j + 1 → lo[j]? ≠ some (some (.double x))
theorem qput1_eq {ρ : Type} {lo : qLo} {n : Nat} {v : Value} {k : qLo → Option ρ} {r : ρ} (h : qput1 lo n v k = some r) : k (qpd1 lo n v) = some r ∧ qnd lo n := by
  cases n with
  | zero =>
    simp only [qput1, qsetK_eq] at h
    exact ⟨h, fun j x e => by omega⟩
  | succ j =>
    have key : ∀ y, qat lo j ≠ some (some (.double y)) → qnd lo (j + 1) := fun y hy i x e => by
      have : i = j := by omega
      subst this
      rw [← qat_eq]
      intro z
      simp [qput1, z] at h
    refine ⟨?_, by
      by_cases hy : qat lo j = some (some (.double 0))
      · simp [qput1, hy] at h
      · exact key 0 hy⟩
    simp only [qput1] at h
    simp only [qpd1]
    split at h
    · rename_i x hx
      simp only [qsetK_eq] at h
      rw [hx]
      exact h
    · cases h
    · rename_i h1 h2
      simp only [qsetK_eq] at h
      split
      · rename_i x hx
        exact absurd hx (h1 x)
      · exact h
theorem qput2_eq {ρ : Type} {lo : qLo} {n : Nat} {v : Value} {k : qLo → Option ρ} {r : ρ} (h : qput2 lo n v k = some r) : k ((qpd1 lo n v).set (n + 1) none) = some r ∧ qnd lo n := by
  unfold qput2 at h
  have h1 := qput1_eq h
  rw [qsetK_eq] at h1
  exact h1
/-- how an abstract value stands for one of the machine -/
def qcv (X : Nat → Value) (v : Value) : Value := match v with
  | .ref i => X i
  | v => v
def qXr (X : Nat → Value) : Prop := ∀ i, X i = .null ∨ ∃ a, X i = .ref a
theorem qcv_cat {X : Nat → Value} (hX : qXr X) (v : Value) : (qcv X v).category = v.category := by
  cases v with
  | ref i => rcases hX i with h | ⟨a, h⟩ <;> simp [qcv, h, Value.category]
  | _ => rfl
theorem qcv_cats {X : Nat → Value} (hX : qXr X) : ∀ st : List Value, ((st.map (qcv X)).map fun v => v.category).sum = qcat st
  | [] => rfl
  | v :: l => by simp only [List.map_cons, List.sum_cons, qcat, qcv_cat hX]; rw [← qcv_cats hX l]
def qlv (X : Nat → Value) : Nat → qLo → List (Nat × Value)
  | _, [] => []
  | k, none :: l => qlv X (k + 1) l
  | k, some v :: l => (k, qcv X v) :: qlv X (k + 1) l
theorem mem_qlv {X : Nat → Value} : ∀ (lo : qLo) (k : Nat) (q : Nat × Value), q ∈ qlv X k lo ↔ ∃ (j : Nat) (v : Value), q.1 = k + j ∧ lo[j]? = some (some v) ∧ q.2 = qcv X v
  | [], k, q => by simp [qlv]
  | none :: l, k, q => by
    rw [qlv, mem_qlv l (k + 1) q]
    constructor
    · rintro ⟨j, v, h1, h2, h3⟩
      exact ⟨j + 1, v, by omega, by simpa using h2, h3⟩
    · rintro ⟨j, v, h1, h2, h3⟩
      cases j with
      | zero => simp at h2
      | succ j => exact ⟨j, v, by omega, by simpa using h2, h3⟩
  | some w :: l, k, q => by
    rw [qlv, List.mem_cons, mem_qlv l (k + 1) q]
    constructor
    · rintro (rfl | ⟨j, v, h1, h2, h3⟩)
      · exact ⟨0, w, by simp, by simp, rfl⟩
      · exact ⟨j + 1, v, by omega, by simpa using h2, h3⟩
    · rintro ⟨j, v, h1, h2, h3⟩
      cases j with
      | zero =>
        left
        simp at h2
        subst h2
        exact Prod.ext (by simpa using h1) h3
      | succ j => exact Or.inr ⟨j, v, by omega, by simpa using h2, h3⟩
def qL (X : Nat → Value) (lo : qLo) (ls : Array Slot) (nL : Nat) : Prop := lv_has ls nL (qlv X 0 lo) ∧ lo.length ≤ nL
theorem qL_get {X : Nat → Value} {lo : qLo} {ls : Array Slot} {nL i : Nat} {v : Value} (h : qL X lo ls nL) (hi : qat lo i = some (some v)) : ls[i]? = some (.val (qcv X v)) := by
  rw [qat_eq] at hi
  exact h.1.2.2 (i, qcv X v) ((mem_qlv lo 0 _).mpr ⟨i, v, by simp, hi, rfl⟩)
theorem qpd1_len (lo : qLo) (n : Nat) (v : Value) : (qpd1 lo n v).length = lo.length := by
  unfold qpd1
  split
  · simp
  · split <;> simp
/-- what is in the locals behind a store of one value -/
theorem qpd1_get {lo : qLo} {n j : Nat} {v w : Value} (hd : qnd lo n) (h : (qpd1 lo n v)[j]? = some (some w)) : (j = n ∧ w = v) ∨ (j ≠ n ∧ lo[j]? = some (some w) ∧ ¬ (j + 1 = n ∧ w.category = 2)) := by
  unfold qpd1 at h
  split at h
  · rw [List.getElem?_set] at h
    split at h
    · split at h <;> simp_all
    · rename_i hj
      exact Or.inr ⟨fun z => hj z.symm, h, by omega⟩
  · rename_i i
    split at h
    · rename_i x hx
      rw [List.getElem?_set] at h
      split at h
      · split at h <;> simp_all
      · rename_i hj
        rw [List.getElem?_set] at h
        split at h
        · split at h <;> simp_all
        · rename_i hj2
          exact Or.inr ⟨fun z => hj z.symm, h, by omega⟩
    · rename_i hx
      rw [List.getElem?_set] at h
      split at h
      · split at h <;> simp_all
      · rename_i hj
        refine Or.inr ⟨fun z => hj z.symm, h, ?_⟩
        rintro ⟨e, hc⟩
        have : j = i := by omega
        subst this
        cases w with
        | long x => exact hx x (by rw [qat_eq]; exact h)
        | double x => exact hd j x rfl h
        | _ => simp [Value.category] at hc
theorem qL_put1 {X : Nat → Value} (hX : qXr X) {lo : qLo} {ls ls' : Array Slot} {nL n : Nat} {v : Value} (hd : qnd lo n) (hq : qL X lo ls nL) (h : lv_has ls' nL ((n, qcv X v) :: (qlv X 0 lo).filter (fun q => !(q.1 == n) && !(q.1 + 1 == n && q.2.category == 2)))) : qL X (qpd1 lo n v) ls' nL := by
  refine ⟨⟨h.1, h.2.1, fun q hq => h.2.2 q ?_⟩, by rw [qpd1_len]; exact hq.2⟩
  obtain ⟨j, w, h1, h2, h3⟩ := (mem_qlv _ _ _).mp hq
  rw [Nat.zero_add] at h1
  rcases qpd1_get hd h2 with ⟨rfl, rfl⟩ | ⟨h4, h5, h6⟩
  · exact List.mem_cons.mpr (Or.inl (Prod.ext h1 h3))
  · refine List.mem_cons_of_mem _ (List.mem_filter.mpr ⟨(mem_qlv _ _ _).mpr ⟨j, w, by omega, h5, h3⟩, ?_⟩)
    rw [h3, qcv_cat hX, h1]
    simp only [Bool.and_eq_true, Bool.not_eq_true', beq_eq_false_iff_ne, ne_eq, Bool.and_eq_false_iff]
    refine ⟨h4, ?_⟩
    by_cases e : j + 1 = n
    · exact Or.inr fun z => h6 ⟨e, z⟩
    · exact Or.inl e
theorem qL_put2 {X : Nat → Value} (hX : qXr X) {lo : qLo} {ls ls' : Array Slot} {nL n : Nat} {v : Value} (hd : qnd lo n) (hq : qL X lo ls nL) (h : lv_has ls' nL ((n, qcv X v) :: (qlv X 0 lo).filter (fun q => !(q.1 == n) && (!(q.1 == n + 1) && !(q.1 + 1 == n && q.2.category == 2))))) : qL X ((qpd1 lo n v).set (n + 1) none) ls' nL := by
  refine ⟨⟨h.1, h.2.1, fun q hq => h.2.2 q ?_⟩, by rw [List.length_set, qpd1_len]; exact hq.2⟩
  obtain ⟨j, w, h1, h2, h3⟩ := (mem_qlv _ _ _).mp hq
  rw [Nat.zero_add] at h1
  rw [List.getElem?_set] at h2
  split at h2
  · split at h2 <;> simp at h2
  · rename_i hj
    rcases qpd1_get hd h2 with ⟨rfl, rfl⟩ | ⟨h4, h5, h6⟩
    · exact List.mem_cons.mpr (Or.inl (Prod.ext h1 h3))
    · refine List.mem_cons_of_mem _ (List.mem_filter.mpr ⟨(mem_qlv _ _ _).mpr ⟨j, w, by omega, h5, h3⟩, ?_⟩)
      rw [h3, qcv_cat hX, h1]
      simp only [Bool.and_eq_true, Bool.not_eq_true', beq_eq_false_iff_ne, ne_eq, Bool.and_eq_false_iff]
      refine ⟨h4, fun z => hj z.symm, ?_⟩
      by_cases e : j + 1 = n
      · exact Or.inr fun z => h6 ⟨e, z⟩
      · exact Or.inl e
theorem qL_kill {X : Nat → Value} {lo : qLo} {ls : Array Slot} {nL n : Nat} (h : qL X lo ls nL) : qL X (lo.set n none) ls nL := by
  refine ⟨⟨h.1.1, h.1.2.1, fun q hq => h.1.2.2 q ?_⟩, by rw [List.length_set]; exact h.2⟩
  obtain ⟨j, w, h1, h2, h3⟩ := (mem_qlv _ _ _).mp hq
  rw [List.getElem?_set] at h2
  split at h2
  · split at h2 <;> simp at h2
  · exact (mem_qlv _ _ _).mpr ⟨j, w, h1, h2, h3⟩
theorem qst_some {ρ : Type} {lo : qLo} {n : Nat} {k : Option ρ} {r : ρ} (h : qst lo n k = some r) : n < lo.length ∧ k = some r := by
  unfold qst at h
  split at h
  · rename_i x hx
    rw [qat_eq] at hx
    exact ⟨(List.getElem?_eq_some_iff.mp hx).1, h⟩
  · cases h
/-! the cells -/
abbrev qWp : Type := Nat × (Nat → Value) × (Nat → ClassId) × (Nat → ClassId) × (Nat → Nat → Nat) × (Nat → Nat → Option Nat)
noncomputable def qfv (fn : Nat → Nat → Option Nat) (X : Nat → Value) (m : qM) (i k t : Nat) : Value := match t with
  | 2 => .long (gL m i k)
  | 3 => (match fn i k with
    | some q => X q
    | none => (match gR m i k with
      | some r => X r
      | none => .null))
  | _ => .int (gI m i k)
noncomputable def qfl (fn : Nat → Nat → Option Nat) (X : Nat → Value) (m : qM) (i : Nat) : Nat → List Nat → List Value
  | _, [] => []
  | k, t :: ts => qfv fn X m i k t :: qfl fn X m i (k + 1) ts
noncomputable def qent (B : Nat) (fn : Nat → Nat → Option Nat) (X : Nat → Value) (DA : Nat → ClassId) (m : qM) (i : Nat) (d : Nat × Nat) : va_E := match d with
  | (0, c) => .inr (c, qfl fn X m i 0 (qft c))
  | (4, n) => .inl (DA 4, n, .inr (.inl (gL m i)))
  | (5, n) => .inl (DA 5, n, .inr (.inr (.inr (.inr (fun k => (gR m i k).map (B + ·))))))
  | (t, n) => .inl (DA t, n, .inl (gI m i))
noncomputable def qws (w : qWp) (n : Nat) (m : qM) : va_W := (List.range n).map fun i => (w.1 + i, qent w.1 w.2.2.2.2.2 w.2.1 w.2.2.1 m i (qsh i))
def qtys (DA : Nat → ClassId) : List (ClassId × FieldType) := [(DA 1, .int), (DA 2, .boolean), (DA 3, .byte), (DA 4, .long), (DA 5, .object RX5)]
def qAd (B : Nat) : Nat → Prop := fun q => B ≤ q
theorem qws_at {w : qWp} {n i : Nat} (m : qM) (h : i < n) : (qws w n m)[i]? = some (w.1 + i, qent w.1 w.2.2.2.2.2 w.2.1 w.2.2.1 m i (qsh i)) := by
  simp [qws, h]
theorem qws_len (w : qWp) (n : Nat) (m : qM) : (qws w n m).length = n := by simp [qws]
theorem qws_D (w : qWp) (n : Nat) (m : qM) : va_D (qAd w.1) (qws w n m) := by
  have key : ∀ (i : Nat) (p : Nat × va_E), (qws w n m)[i]? = some p → p.1 = w.1 + i := by
    intro i p h
    have hi : i < n := by
      have := (List.getElem?_eq_some_iff.mp h).1
      rwa [qws_len] at this
    rw [qws_at m hi] at h
    cases h
    rfl
  refine ⟨fun i j p q hi hj e => ?_, fun k q hk => ?_⟩
  · have h1 := key i p hi
    have h2 := key j q hj
    omega
  · rw [key k q hk]
    exact Nat.le_add_right _ _
/-- nothing but the row c differs -/
def qOff (c : Nat) (m m' : qM) : Prop := ∀ i, i ≠ c → gI m' i = gI m i ∧ gL m' i = gL m i ∧ gR m' i = gR m i
theorem qfl_congr {fn : Nat → Nat → Option Nat} {X : Nat → Value} {m m' : qM} {i : Nat} (h : gI m' i = gI m i ∧ gL m' i = gL m i ∧ gR m' i = gR m i) : ∀ (l : List Nat) (k : Nat), qfl fn X m' i k l = qfl fn X m i k l
  | [], k => rfl
  | t :: l, k => by
    rw [qfl, qfl, qfl_congr h l (k + 1)]
    unfold qfv
    rw [h.1, h.2.1, h.2.2]
theorem qent_congr {B : Nat} {fn : Nat → Nat → Option Nat} {X : Nat → Value} {DA : Nat → ClassId} {m m' : qM} {i : Nat} (h : gI m' i = gI m i ∧ gL m' i = gL m i ∧ gR m' i = gR m i) (d : Nat × Nat) : qent B fn X DA m' i d = qent B fn X DA m i d := by
  unfold qent
  split
  · rw [qfl_congr h]
  · rw [h.2.1]
  · rw [h.2.2]
  · rw [h.1]
theorem qws_set {w : qWp} {n c : Nat} {m m' : qM} (hc : c < n) (h : qOff c m m') : qws w n m' = (qws w n m).set c (w.1 + c, qent w.1 w.2.2.2.2.2 w.2.1 w.2.2.1 m' c (qsh c)) := by
  apply List.ext_getElem?
  intro i
  by_cases hi : i < n
  · by_cases e : c = i
    · subst e
      rw [qws_at m' hi, List.getElem?_set_self (by rw [qws_len]; exact hi)]
    · rw [qws_at m' hi, List.getElem?_set_ne e, qws_at m hi, qent_congr (h i fun z => e z.symm)]
  · rw [List.getElem?_eq_none (by rw [qws_len]; omega), List.getElem?_eq_none (by rw [List.length_set, qws_len]; omega)]
theorem qws_push {w : qWp} {n : Nat} {m m' : qM} (h : qOff n m m') : qws w (n + 1) m' = qws w n m ++ [(w.1 + n, qent w.1 w.2.2.2.2.2 w.2.1 w.2.2.1 m' n (qsh n))] := by
  unfold qws
  rw [List.range_succ, List.map_append]
  congr 1
  apply List.map_congr_left
  intro i hi
  rw [qent_congr (h i (by have := List.mem_range.mp hi; omega))]
/-! what is read behind what is written -/
theorem gI_sI (m : qM) (c k : Nat) (v : Int32) (c' k' : Nat) : gI (sI m c k v) c' k' = if c' = c ∧ k' = k then v else gI m c' k' := by
  rw [gI_d, sI_d]
  simp only [qu]
  split <;> split <;> simp_all
theorem gL_sI (m : qM) (c k : Nat) (v : Int32) : gL (sI m c k v) = gL m := by rw [gL_d, sI_d]
theorem gR_sI (m : qM) (c k : Nat) (v : Int32) : gR (sI m c k v) = gR m := by rw [gR_d, sI_d]
theorem gL_sL (m : qM) (c k : Nat) (v : Int64) (c' k' : Nat) : gL (sL m c k v) c' k' = if c' = c ∧ k' = k then v else gL m c' k' := by
  rw [gL_d, sL_d]
  simp only [qu]
  split <;> split <;> simp_all
theorem gI_sL (m : qM) (c k : Nat) (v : Int64) : gI (sL m c k v) = gI m := by rw [gI_d, sL_d]
theorem gR_sL (m : qM) (c k : Nat) (v : Int64) : gR (sL m c k v) = gR m := by rw [gR_d, sL_d]
theorem gR_sR (m : qM) (c k : Nat) (v : Option Nat) (c' k' : Nat) : gR (sR m c k v) c' k' = if c' = c ∧ k' = k then v else gR m c' k' := by
  rw [gR_d, sR_d]
  simp only [qu]
  split <;> split <;> simp_all
theorem gI_sR (m : qM) (c k : Nat) (v : Option Nat) : gI (sR m c k v) = gI m := by rw [gI_d, sR_d]
theorem gL_sR (m : qM) (c k : Nat) (v : Option Nat) : gL (sR m c k v) = gL m := by rw [gL_d, sR_d]
theorem gI_sC (m : qM) (a d n : Nat) (c' k' : Nat) : gI (sC m a d n) c' k' = if c' = d ∧ k' < n then gI m a k' else gI m c' k' := by
  rw [gI_d, sC_d]
  simp only
  by_cases h1 : c' = d <;> by_cases h2 : k' < n <;> simp [va_cpy, h1, h2]
theorem gL_sC (m : qM) (a d n : Nat) : gL (sC m a d n) = gL m := by rw [gL_d, sC_d]
theorem gR_sC (m : qM) (a d n : Nat) : gR (sC m a d n) = gR m := by rw [gR_d, sC_d]
theorem gI_qz (m : qM) (c c' k' : Nat) : gI (qz m c) c' k' = if c' = c then 0 else gI m c' k' := by
  rw [gI_d, qz_d]
  simp only
  split <;> simp_all
theorem gL_qz (m : qM) (c c' k' : Nat) : gL (qz m c) c' k' = if c' = c then 0 else gL m c' k' := by
  rw [gL_d, qz_d]
  simp only
  split <;> simp_all
theorem gR_qz (m : qM) (c c' k' : Nat) : gR (qz m c) c' k' = if c' = c then none else gR m c' k' := by
  rw [gR_d, qz_d]
  simp only
  split <;> simp_all
theorem qOff_sI (m : qM) (c k : Nat) (v : Int32) : qOff c m (sI m c k v) := fun i hi => ⟨by funext j; rw [gI_sI, if_neg (fun z => hi z.1)], by rw [gL_sI], by rw [gR_sI]⟩
theorem qOff_sL (m : qM) (c k : Nat) (v : Int64) : qOff c m (sL m c k v) := fun i hi => ⟨by rw [gI_sL], by funext j; rw [gL_sL, if_neg (fun z => hi z.1)], by rw [gR_sL]⟩
theorem qOff_sR (m : qM) (c k : Nat) (v : Option Nat) : qOff c m (sR m c k v) := fun i hi => ⟨by rw [gI_sR], by rw [gL_sR], by funext j; rw [gR_sR, if_neg (fun z => hi z.1)]⟩
theorem qOff_sC (m : qM) (a d n : Nat) : qOff d m (sC m a d n) := fun i hi => ⟨by funext j; rw [gI_sC, if_neg (fun z => hi z.1)], by rw [gL_sC], by rw [gR_sC]⟩
theorem qOff_qz (m : qM) (c : Nat) : qOff c m (qz m c) := fun i hi => ⟨by funext j; rw [gI_qz, if_neg hi], by funext j; rw [gL_qz, if_neg hi], by funext j; rw [gR_qz, if_neg hi]⟩
