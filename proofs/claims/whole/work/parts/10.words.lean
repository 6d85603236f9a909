/-! the tables' words, by their places; classes -/
theorem qm1 {x : Jvm.Cond} (h : x ∈ tables_1_1) (g : qgw x = true) : x ∈ qTw := List.mem_filter.mpr ⟨List.mem_append_right _ (List.mem_append_left _ h), g⟩
theorem qm2 {x : Jvm.Cond} (h : x ∈ tables_1_2) (g : qgw x = true) : x ∈ qTw := List.mem_filter.mpr ⟨List.mem_append_right _ (List.mem_append_right _ (List.mem_append_left _ h)), g⟩
theorem qm3 {x : Jvm.Cond} (h : x ∈ tables_1_3) (g : qgw x = true) : x ∈ qTw := List.mem_filter.mpr ⟨List.mem_append_right _ (List.mem_append_right _ (List.mem_append_right _ (List.mem_append_left _ h))), g⟩
theorem qm4 {x : Jvm.Cond} (h : x ∈ tables_1_4) (g : qgw x = true) : x ∈ qTw := List.mem_filter.mpr ⟨List.mem_append_right _ (List.mem_append_right _ (List.mem_append_right _ (List.mem_append_right _ (List.mem_append_left _ h)))), g⟩
theorem qm5 {x : Jvm.Cond} (h : x ∈ tables_1_5) (g : qgw x = true) : x ∈ qTw := List.mem_filter.mpr ⟨List.mem_append_right _ (List.mem_append_right _ (List.mem_append_right _ (List.mem_append_right _ (List.mem_append_right _ (List.mem_append_left _ h))))), g⟩
theorem qm6 {x : Jvm.Cond} (h : x ∈ tables_1_6) (g : qgw x = true) : x ∈ qTw := List.mem_filter.mpr ⟨List.mem_append_right _ (List.mem_append_right _ (List.mem_append_right _ (List.mem_append_right _ (List.mem_append_right _ (List.mem_append_right _ (List.mem_append_left _ h)))))), g⟩
theorem qm7 {x : Jvm.Cond} (h : x ∈ tables_1_7) (g : qgw x = true) : x ∈ qTw := List.mem_filter.mpr ⟨List.mem_append_right _ (List.mem_append_right _ (List.mem_append_right _ (List.mem_append_right _ (List.mem_append_right _ (List.mem_append_right _ (List.mem_append_right _ (List.mem_append_left _ h))))))), g⟩
theorem qm8 {x : Jvm.Cond} (h : x ∈ tables_1_8) (g : qgw x = true) : x ∈ qTw := List.mem_filter.mpr ⟨List.mem_append_right _ (List.mem_append_right _ (List.mem_append_right _ (List.mem_append_right _ (List.mem_append_right _ (List.mem_append_right _ (List.mem_append_right _ (List.mem_append_right _ (List.mem_append_left _ h)))))))), g⟩
theorem qm9 {x : Jvm.Cond} (h : x ∈ tables_1_9) (g : qgw x = true) : x ∈ qTw := List.mem_filter.mpr ⟨List.mem_append_right _ (List.mem_append_right _ (List.mem_append_right _ (List.mem_append_right _ (List.mem_append_right _ (List.mem_append_right _ (List.mem_append_right _ (List.mem_append_right _ (List.mem_append_right _ (h))))))))), g⟩
theorem qus_good (C : String) (T : u_T) (N : Nat) : ∀ w ∈ u_ws C T N, qgw w = true := by
  intro w hw
  obtain ⟨k, -, rfl⟩ := List.mem_map.mp hw
  unfold u_lay
  split <;> rfl
theorem qus_in {C : String} {T : u_T} {N : Nat} (h : ∀ w ∈ u_ws C T N, w ∈ lw_tbl) : ∀ w ∈ u_ws C T N, w ∈ qTw := fun w hw => List.mem_filter.mpr ⟨h w hw, qus_good C T N w hw⟩
/-- what is known of the class number ci -/
def qCk (ci : Nat) (C : String) (N : Nat) : Prop := qCL[ci]? = some (C, qTb ci, N) ∧ (∀ w ∈ u_ws C (qTb ci) N, w ∈ qTw) ∧ (∀ k, k < N → parseFieldDescriptor (qTb ci k).2.2.1 = some (qTY ci k)) ∧ (∀ a, a < N → ∀ b, b < N → a ≠ b → (qTb ci a).2.1 ≠ (qTb ci b).2.1) ∧ qft ci = (List.range N).map (fun k => qkd (qTY ci k))
theorem qCk_0 : qCk 0 RX0 14 := ⟨rfl, qus_in qin_X0, tyX0_ok, nmX0, qft_all 0 (by decide)⟩
theorem qCk_1 : qCk 1 RX1 19 := ⟨rfl, qus_in qin_X1, tyX1_ok, nmX1, qft_all 1 (by decide)⟩
theorem qCk_2 : qCk 2 RX2 7 := ⟨rfl, qus_in qin_X2, tyX2_ok, nmX2, qft_all 2 (by decide)⟩
theorem qCk_3 : qCk 3 RX3 11 := ⟨rfl, qus_in qin_X3, tyX3_ok, nmX3, qft_all 3 (by decide)⟩
theorem qCk_4 : qCk 4 RX4 17 := ⟨rfl, qus_in qin_X4, tyX4_ok, nmX4, qft_all 4 (by decide)⟩
theorem qCk_5 : qCk 5 RX5 7 := ⟨rfl, qus_in qin_X5, tyX5_ok, nmX5, qft_all 5 (by decide)⟩
theorem qCk_6 : qCk 6 RX6 6 := ⟨rfl, qus_in qin_X6, tyX6_ok, nmX6, qft_all 6 (by decide)⟩
theorem qCk_7 : qCk 7 RX7 2 := ⟨rfl, qus_in qin_X7, tyX7_ok, nmX7, qft_all 7 (by decide)⟩
theorem qCk_8 : qCk 8 RX8 2 := ⟨rfl, qus_in qin_X8, tyX8_ok, nmX8, qft_all 8 (by decide)⟩
theorem qCk_9 : qCk 9 RX9 6 := ⟨rfl, qus_in qin_X9, tyX9_ok, nmX9, qft_all 9 (by decide)⟩
theorem qCk_10 : qCk 10 RX10 5 := ⟨rfl, qus_in qin_X10, tyX10_ok, nmX10, qft_all 10 (by decide)⟩
theorem qCk_11 : qCk 11 RX11 11 := ⟨rfl, qus_in qin_X11, tyX11_ok, nmX11, qft_all 11 (by decide)⟩
theorem qCk_12 : qCk 12 RX12 6 := ⟨rfl, qus_in qin_X12, tyX12_ok, nmX12, qft_all 12 (by decide)⟩
theorem qCk_13 : qCk 13 RX13 76 := ⟨rfl, qus_in qin_X13, tyX13_ok, nmX13, qft_all 13 (by decide)⟩
theorem qCk_all : ∀ ci, ci < 14 → ∃ C N, qCk ci C N := fun ci h => match ci, h with
  | 0, _ => ⟨_, _, qCk_0⟩
  | 1, _ => ⟨_, _, qCk_1⟩
  | 2, _ => ⟨_, _, qCk_2⟩
  | 3, _ => ⟨_, _, qCk_3⟩
  | 4, _ => ⟨_, _, qCk_4⟩
  | 5, _ => ⟨_, _, qCk_5⟩
  | 6, _ => ⟨_, _, qCk_6⟩
  | 7, _ => ⟨_, _, qCk_7⟩
  | 8, _ => ⟨_, _, qCk_8⟩
  | 9, _ => ⟨_, _, qCk_9⟩
  | 10, _ => ⟨_, _, qCk_10⟩
  | 11, _ => ⟨_, _, qCk_11⟩
  | 12, _ => ⟨_, _, qCk_12⟩
  | 13, _ => ⟨_, _, qCk_13⟩
  | n + 14, h => absurd h (by omega)
/-- a field as the class own names it by its pool's entry ix: the field k, of the kind ty, of the object c of the class ci -/
def qFd (own : String) (ix c ci k ty : Nat) : Prop := Jvm.Cond.fieldLink own ix (qTb ci k).1 (qTb ci k).2.1 (qTb ci k).2.2.1 ∈ qTw ∧ qsh c = (0, ci) ∧ ci < 14 ∧ (qft ci)[k]? = some ty
theorem qfl_get {fn : Nat → Nat → Option Nat} {X : Nat → Value} {m : qM} {i : Nat} : ∀ (l : List Nat) (k j t : Nat), l[j]? = some t → (qfl fn X m i k l)[j]? = some (qfv fn X m i (k + j) t)
  | [], k, j, t, h => by simp at h
  | a :: l, k, 0, t, h => by
    simp at h
    subst h
    simp [qfl]
  | a :: l, k, j + 1, t, h => by
    simp at h
    simp only [qfl, List.getElem?_cons_succ]
    rw [qfl_get l (k + 1) j t h]
    congr 2
    omega
theorem qfl_len {fn : Nat → Nat → Option Nat} {X : Nat → Value} {m : qM} {i : Nat} : ∀ (l : List Nat) (k : Nat), (qfl fn X m i k l).length = l.length
  | [], k => rfl
  | a :: l, k => by simp [qfl, qfl_len l (k + 1)]
/-- one field is set -/
theorem qfl_set {fn : Nat → Nat → Option Nat} {X : Nat → Value} {m m' : qM} {i : Nat} {v : Value} : ∀ (l : List Nat) (k j t : Nat), l[j]? = some t → qfv fn X m' i (k + j) t = v → (∀ j' t', j' ≠ k + j → qfv fn X m' i j' t' = qfv fn X m i j' t') → qfl fn X m' i k l = (qfl fn X m i k l).set j v
  | [], k, j, t, h, _, _ => by simp at h
  | a :: l, k, 0, t, h, hv, ho => by
    simp at h
    subst h
    simp only [qfl, List.set_cons_zero]
    congr 1
    have : ∀ (l : List Nat) (k' : Nat), k < k' → qfl fn X m' i k' l = qfl fn X m i k' l := by
      intro l
      induction l with
      | nil => intro k' _; rfl
      | cons b l ih =>
        intro k' hk
        simp only [qfl]
        rw [ho k' b (by omega), ih (k' + 1) (by omega)]
    exact this l (k + 1) (by omega)
  | a :: l, k, j + 1, t, h, hv, ho => by
    simp at h
    simp only [qfl, List.set_cons_succ]
    rw [ho k a (by omega)]
    rw [qfl_set (v := v) l (k + 1) j t h (by rw [← hv]; congr 1; omega) (fun j' t' hj => ho j' t' (by omega))]
theorem qft_lt {ci k t : Nat} {C : String} {N : Nat} (h : qCk ci C N) (hk : (qft ci)[k]? = some t) : k < N ∧ t = qkd (qTY ci k) := by
  rw [h.2.2.2.2] at hk
  rw [List.getElem?_map] at hk
  by_cases hl : k < N
  · rw [List.getElem?_range hl] at hk
    simp at hk
    exact ⟨hl, hk.symm⟩
  · rw [List.getElem?_eq_none (by simp; omega)] at hk
    simp at hk
