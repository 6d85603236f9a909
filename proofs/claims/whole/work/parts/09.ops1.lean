/-! what the operations say of the machine: a frame at pc, whose world has n cells, goes on as the chain says -/
abbrev qCx : Type := Program × Launch × Env × Room × State × MethodId × Array Value × List Frame × Method × Code
def qWj (C : qCx) (H : Heap) (locs : List Loc) (cells slots : Nat) (Q : State → Prop) (g : JFrame) : Prop := match C with
  | (p, l, e, R, s, m, args, below, meth, c) => W p l e R s m args below meth c H locs cells slots Q g
def qMe (C : qCx) : MethodId := C.2.2.2.2.2.1
def qSt (C : qCx) : State := C.2.2.2.2.1
def qss : Nat → Nat
  | 0 => 0
  | n + 1 => qss n + (if (qsh n).1 = 0 then (qft (qsh n).2).length else (qsh n).2)
def qFo (fin : Nat → Nat → Option Nat) (w : qWp) : Prop := w.2.2.2.2.2 = fin
/-- words that last while classes grow warm -/
def qgw (x : Jvm.Cond) : Bool := goodWord x || (x.onTables && x.keepsH)
def qTw : List Jvm.Cond := lw_tbl.filter qgw
/-- what stands throughout a frame -/
def qOk (C : qCx) (w : qWp) (own : String) (cc : ByteArray) (nL dp n0 n1 : Nat) : Prop := match C with
  | (p, _, _, R, s, m, args, _, _, c) => p.tables.exec = Jvm.exec ∧ c.code = cc ∧ c.maxLocals = nL ∧ s.vm.findClass own = some m.cls ∧ (∀ x ∈ qTw, x.before args s = true) ∧ va_K (w.2.2.2.1, w.2.2.2.2.1) qCL (qtys w.2.2.1) s ∧ (∀ i, i < 1000 → w.2.1 i = .ref (w.1 + i)) ∧ qXr w.2.1 ∧ dp ≤ R.frames ∧ 64 * dp ≤ R.locals ∧ n1 - n0 ≤ R.cells ∧ qss n1 - qss n0 ≤ R.slots ∧ s.heap.size = w.1 + n0 ∧ qGl w s s.heap
def qSnd {ρ : Type} (C : qCx) (w : qWp) (nL n0 : Nat) (Qf : ρ → State → Prop) (fin : Nat → Nat → Option Nat) (n pc : Nat) (t : qT ρ) : Prop :=
  ∀ (lo : qLo) (st : List Value) (m : qM) (r : ρ), t lo st m = some r → qFo fin w → ∀ (H : Heap) (ls : Array Slot) (locs : List Loc), va_P (w.2.2.2.1, w.2.2.2.2.1) qCL (qws w n m) H → va_S (qAd w.1) (qSt C).heap H locs → qL w.2.1 lo ls nL →
    qWj C H locs (n - n0) (qss n - qss n0) (Qf r) (F0 (qMe C) pc ls (st.map (qcv w.2.1)))
section
variable {ρ : Type} {C : qCx} {w : qWp} {own : String} {cc : ByteArray} {nL dp n0 n1 : Nat} {Qf : ρ → State → Prop} {fin : Nat → Nat → Option Nat} {n pc : Nat}
theorem cC {t : qT ρ} {v : Int32} {i : Int} (h : qOk C w own cc nL dp n0 n1) (d : decode cc pc = .ok (.iconst i, 1)) (hv : Int32.ofInt i = v) (k : qSnd C w nL n0 Qf fin n (pc + 1) t) : qSnd C w nL n0 Qf fin n pc (oC (.int v) t) := by
  obtain ⟨p, l, e, R, s, m, args, below, meth, c⟩ := C
  obtain ⟨hx, hb, -⟩ := h
  intro lo st mm r hr hF H ls locs a2 a3 a4
  exact lv_iconst hx hb d hv (k lo _ mm r hr hF H ls locs a2 a3 a4)
theorem cB {t : qT ρ} {v : Int32} {i : Int} (h : qOk C w own cc nL dp n0 n1) (d : decode cc pc = .ok (.bipush i, 2)) (hv : (Int8.ofInt i).toInt32 = v) (k : qSnd C w nL n0 Qf fin n (pc + 2) t) : qSnd C w nL n0 Qf fin n pc (oC (.int v) t) := by
  obtain ⟨p, l, e, R, s, m, args, below, meth, c⟩ := C
  obtain ⟨hx, hb, -⟩ := h
  intro lo st mm r hr hF H ls locs a2 a3 a4
  exact lv_bipush hx hb d hv (k lo _ mm r hr hF H ls locs a2 a3 a4)
theorem cS {t : qT ρ} {v : Int32} {i : Int} (h : qOk C w own cc nL dp n0 n1) (d : decode cc pc = .ok (.sipush i, 3)) (hv : (Int16.ofInt i).toInt32 = v) (k : qSnd C w nL n0 Qf fin n (pc + 3) t) : qSnd C w nL n0 Qf fin n pc (oC (.int v) t) := by
  obtain ⟨p, l, e, R, s, m, args, below, meth, c⟩ := C
  obtain ⟨hx, hb, -⟩ := h
  intro lo st mm r hr hF H ls locs a2 a3 a4
  exact lv_sipush hx hb d hv (k lo _ mm r hr hF H ls locs a2 a3 a4)
theorem cJ {t : qT ρ} {v : Int64} {i : Fin 2} (h : qOk C w own cc nL dp n0 n1) (d : decode cc pc = .ok (.lconst i, 1)) (hv : Int64.ofNat (i : Nat) = v) (k : qSnd C w nL n0 Qf fin n (pc + 1) t) : qSnd C w nL n0 Qf fin n pc (oC (.long v) t) := by
  obtain ⟨p, l, e, R, s, m, args, below, meth, c⟩ := C
  obtain ⟨hx, hb, -⟩ := h
  intro lo st mm r hr hF H ls locs a2 a3 a4
  exact lv_lconst hx hb d hv (k lo _ mm r hr hF H ls locs a2 a3 a4)
theorem cLi {t : qT ρ} {i : Fin 4} {j : Nat} (h : qOk C w own cc nL dp n0 n1) (d : decode cc pc = .ok (.iload_n i, 1)) (hj : (i : Nat) = j) (k : qSnd C w nL n0 Qf fin n (pc + 1) t) : qSnd C w nL n0 Qf fin n pc (oLi j t) := by
  obtain ⟨p, l, e, R, s, m, args, below, meth, c⟩ := C
  obtain ⟨hx, hb, -⟩ := h
  intro lo st mm r hr hF H ls locs a2 a3 a4
  unfold oLi at hr
  split at hr
  · rename_i x hl
    exact lv_iload_n hx hb d hj (qL_get a4 hl) (k lo _ mm r hr hF H ls locs a2 a3 a4)
  · cases hr
theorem cLI {t : qT ρ} {j : Nat} (h : qOk C w own cc nL dp n0 n1) (d : decode cc pc = .ok (.iload j, 2)) (k : qSnd C w nL n0 Qf fin n (pc + 2) t) : qSnd C w nL n0 Qf fin n pc (oLi j t) := by
  obtain ⟨p, l, e, R, s, m, args, below, meth, c⟩ := C
  obtain ⟨hx, hb, -⟩ := h
  intro lo st mm r hr hF H ls locs a2 a3 a4
  unfold oLi at hr
  split at hr
  · rename_i x hl
    exact lv_iload hx hb d (qL_get a4 hl) (k lo _ mm r hr hF H ls locs a2 a3 a4)
  · cases hr
theorem cLl {t : qT ρ} {i : Fin 4} {j : Nat} (h : qOk C w own cc nL dp n0 n1) (d : decode cc pc = .ok (.lload_n i, 1)) (hj : (i : Nat) = j) (k : qSnd C w nL n0 Qf fin n (pc + 1) t) : qSnd C w nL n0 Qf fin n pc (oLl j t) := by
  obtain ⟨p, l, e, R, s, m, args, below, meth, c⟩ := C
  obtain ⟨hx, hb, -⟩ := h
  intro lo st mm r hr hF H ls locs a2 a3 a4
  unfold oLl at hr
  split at hr
  · rename_i x hl
    exact lv_lload_n hx hb d hj (qL_get a4 hl) (k lo _ mm r hr hF H ls locs a2 a3 a4)
  · cases hr
theorem cLL {t : qT ρ} {j : Nat} (h : qOk C w own cc nL dp n0 n1) (d : decode cc pc = .ok (.lload j, 2)) (k : qSnd C w nL n0 Qf fin n (pc + 2) t) : qSnd C w nL n0 Qf fin n pc (oLl j t) := by
  obtain ⟨p, l, e, R, s, m, args, below, meth, c⟩ := C
  obtain ⟨hx, hb, -⟩ := h
  intro lo st mm r hr hF H ls locs a2 a3 a4
  unfold oLl at hr
  split at hr
  · rename_i x hl
    exact lv_lload hx hb d (qL_get a4 hl) (k lo _ mm r hr hF H ls locs a2 a3 a4)
  · cases hr
theorem cLa {t : qT ρ} {i : Fin 4} {j : Nat} (h : qOk C w own cc nL dp n0 n1) (d : decode cc pc = .ok (.aload_n i, 1)) (hj : (i : Nat) = j) (k : qSnd C w nL n0 Qf fin n (pc + 1) t) : qSnd C w nL n0 Qf fin n pc (oLa j t) := by
  obtain ⟨p, l, e, R, s, m, args, below, meth, c⟩ := C
  obtain ⟨hx, hb, -, -, -, -, -, hX, -⟩ := h
  intro lo st mm r hr hF H ls locs a2 a3 a4
  unfold oLa at hr
  split at hr
  · rename_i x hl
    have hg := qL_get a4 hl
    have kk := k lo _ mm r hr hF H ls locs a2 a3 a4
    simp only [List.map_cons, qcv] at hg kk
    rcases hX x with e1 | ⟨a, e1⟩
    · rw [e1] at hg kk
      exact lv_aload_nN hx hb d hj hg kk
    · rw [e1] at hg kk
      exact lv_aload_n hx hb d hj hg kk
  · rename_i hl
    exact lv_aload_nN hx hb d hj (qL_get a4 hl) (k lo _ mm r hr hF H ls locs a2 a3 a4)
  · cases hr
theorem cLA {t : qT ρ} {j : Nat} (h : qOk C w own cc nL dp n0 n1) (d : decode cc pc = .ok (.aload j, 2)) (k : qSnd C w nL n0 Qf fin n (pc + 2) t) : qSnd C w nL n0 Qf fin n pc (oLa j t) := by
  obtain ⟨p, l, e, R, s, m, args, below, meth, c⟩ := C
  obtain ⟨hx, hb, -, -, -, -, -, hX, -⟩ := h
  intro lo st mm r hr hF H ls locs a2 a3 a4
  unfold oLa at hr
  split at hr
  · rename_i x hl
    have hg := qL_get a4 hl
    have kk := k lo _ mm r hr hF H ls locs a2 a3 a4
    simp only [List.map_cons, qcv] at hg kk
    rcases hX x with e1 | ⟨a, e1⟩
    · rw [e1] at hg kk
      exact lv_aloadN hx hb d hg kk
    · rw [e1] at hg kk
      exact lv_aload hx hb d hg kk
  · rename_i hl
    exact lv_aloadN hx hb d (qL_get a4 hl) (k lo _ mm r hr hF H ls locs a2 a3 a4)
  · cases hr
theorem q1_some {st : List Value} {k : Int32 → List Value → Option ρ} {r : ρ} (h : q1 st k = some r) : ∃ x t, st = .int x :: t ∧ k x t = some r := by
  unfold q1 at h
  split at h
  · exact ⟨_, _, rfl, h⟩
  · cases h
theorem q2_some {st : List Value} {k : Int32 → Int32 → List Value → Option ρ} {r : ρ} (h : q2 st k = some r) : ∃ x y t, st = .int y :: .int x :: t ∧ k x y t = some r := by
  unfold q2 at h
  split at h
  · exact ⟨_, _, _, rfl, h⟩
  · cases h
theorem qJ_some {st : List Value} {k : Int64 → List Value → Option ρ} {r : ρ} (h : qJ st k = some r) : ∃ x t, st = .long x :: t ∧ k x t = some r := by
  unfold qJ at h
  split at h
  · exact ⟨_, _, rfl, h⟩
  · cases h
theorem qJJ_some {st : List Value} {k : Int64 → Int64 → List Value → Option ρ} {r : ρ} (h : qJJ st k = some r) : ∃ x y t, st = .long y :: .long x :: t ∧ k x y t = some r := by
  unfold qJJ at h
  split at h
  · exact ⟨_, _, _, rfl, h⟩
  · cases h
theorem qA_some {st : List Value} {k : Value → List Value → Option ρ} {r : ρ} (h : qA st k = some r) : ∃ v t, (v = .null ∨ ∃ x, v = .ref x) ∧ st = v :: t ∧ k v t = some r := by
  unfold qA at h
  split at h
  · exact ⟨_, _, Or.inr ⟨_, rfl⟩, rfl, h⟩
  · exact ⟨_, _, Or.inl rfl, rfl, h⟩
  · cases h
theorem cSi {t : qT ρ} {i : Fin 4} {j : Nat} (h : qOk C w own cc nL dp n0 n1) (d : decode cc pc = .ok (.istore_n i, 1)) (hj : (i : Nat) = j) (k : qSnd C w nL n0 Qf fin n (pc + 1) t) : qSnd C w nL n0 Qf fin n pc (oSi j t) := by
  obtain ⟨p, l, e, R, s, m, args, below, meth, c⟩ := C
  obtain ⟨hx, hb, -, -, -, -, -, hX, -⟩ := h
  intro lo st mm r hr hF H ls locs a2 a3 a4
  obtain ⟨x, t', rfl, h1⟩ := q1_some hr
  obtain ⟨h2, h3⟩ := qst_some h1
  obtain ⟨h4, h5⟩ := qput1_eq h3
  exact lv_istore_n hx hb d hj a4.1 (Nat.lt_of_lt_of_le h2 a4.2) rfl fun ls' hl' => k _ _ mm r h4 hF H ls' locs a2 a3 (qL_put1 hX h5 a4 hl')
theorem cSI {t : qT ρ} {j : Nat} (h : qOk C w own cc nL dp n0 n1) (d : decode cc pc = .ok (.istore j, 2)) (k : qSnd C w nL n0 Qf fin n (pc + 2) t) : qSnd C w nL n0 Qf fin n pc (oSi j t) := by
  obtain ⟨p, l, e, R, s, m, args, below, meth, c⟩ := C
  obtain ⟨hx, hb, -, -, -, -, -, hX, -⟩ := h
  intro lo st mm r hr hF H ls locs a2 a3 a4
  obtain ⟨x, t', rfl, h1⟩ := q1_some hr
  obtain ⟨h2, h3⟩ := qst_some h1
  obtain ⟨h4, h5⟩ := qput1_eq h3
  exact lv_istore hx hb d a4.1 (Nat.lt_of_lt_of_le h2 a4.2) rfl fun ls' hl' => k _ _ mm r h4 hF H ls' locs a2 a3 (qL_put1 hX h5 a4 hl')
theorem cSl {t : qT ρ} {i : Fin 4} {j : Nat} (h : qOk C w own cc nL dp n0 n1) (d : decode cc pc = .ok (.lstore_n i, 1)) (hj : (i : Nat) = j) (k : qSnd C w nL n0 Qf fin n (pc + 1) t) : qSnd C w nL n0 Qf fin n pc (oSl j t) := by
  obtain ⟨p, l, e, R, s, m, args, below, meth, c⟩ := C
  obtain ⟨hx, hb, -, -, -, -, -, hX, -⟩ := h
  intro lo st mm r hr hF H ls locs a2 a3 a4
  obtain ⟨x, t', rfl, h1⟩ := qJ_some hr
  obtain ⟨h2, h3⟩ := qst_some h1
  obtain ⟨h4, h5⟩ := qput2_eq h3
  exact lv_lstore_n hx hb d hj a4.1 (Nat.lt_of_lt_of_le h2 a4.2) rfl fun ls' hl' => k _ _ mm r h4 hF H ls' locs a2 a3 (qL_put2 hX h5 a4 hl')
theorem cSL {t : qT ρ} {j : Nat} (h : qOk C w own cc nL dp n0 n1) (d : decode cc pc = .ok (.lstore j, 2)) (k : qSnd C w nL n0 Qf fin n (pc + 2) t) : qSnd C w nL n0 Qf fin n pc (oSl j t) := by
  obtain ⟨p, l, e, R, s, m, args, below, meth, c⟩ := C
  obtain ⟨hx, hb, -, -, -, -, -, hX, -⟩ := h
  intro lo st mm r hr hF H ls locs a2 a3 a4
  obtain ⟨x, t', rfl, h1⟩ := qJ_some hr
  obtain ⟨h2, h3⟩ := qst_some h1
  obtain ⟨h4, h5⟩ := qput2_eq h3
  exact lv_lstore hx hb d a4.1 (Nat.lt_of_lt_of_le h2 a4.2) rfl fun ls' hl' => k _ _ mm r h4 hF H ls' locs a2 a3 (qL_put2 hX h5 a4 hl')
theorem cInc {t : qT ρ} {j : Nat} {i : Int} {v : Int32} (h : qOk C w own cc nL dp n0 n1) (d : decode cc pc = .ok (.iinc j i, 3)) (hv : Int32.ofInt i = v) (k : qSnd C w nL n0 Qf fin n (pc + 3) t) : qSnd C w nL n0 Qf fin n pc (oInc j v t) := by
  obtain ⟨p, l, e, R, s, m, args, below, meth, c⟩ := C
  obtain ⟨hx, hb, -, -, -, -, -, hX, -⟩ := h
  subst hv
  intro lo st mm r hr hF H ls locs a2 a3 a4
  unfold oInc at hr
  split at hr
  · rename_i x hl
    obtain ⟨h4, h5⟩ := qput1_eq hr
    have hm : (j, Value.int x) ∈ qlv w.2.1 0 lo := (mem_qlv lo 0 _).mpr ⟨j, .int x, by simp, by rw [← qat_eq]; exact hl, rfl⟩
    obtain ⟨q, hq⟩ := List.getElem?_of_mem hm
    have h2 : j < lo.length := by
      rw [qat_eq] at hl
      exact (List.getElem?_eq_some_iff.mp hl).1
    exact lv_iinc hx hb d a4.1 hq rfl (Nat.lt_of_lt_of_le h2 a4.2) rfl fun ls' hl' => k _ _ mm r h4 hF H ls' locs a2 a3 (qL_put1 hX h5 a4 hl')
  · cases hr
end
