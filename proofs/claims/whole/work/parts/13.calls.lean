/-! calls -/
def qWo (w : qWp) : Prop := (∀ i, i < 1000 → w.2.1 i = .ref (w.1 + i)) ∧ qXr w.2.1
def qPcn (w : qWp) (n : Nat) (m : qM) (av : List Value) : Array Value → State → Prop := va_Pc (av.map (qcv w.2.1)) (fun U => U.heap.size = w.1 + n ∧ va_P (w.2.2.2.1, w.2.2.2.2.1) qCL (qws w n m) U.heap ∧ va_K (w.2.2.2.1, w.2.2.2.2.1) qCL (qtys w.2.2.1) U ∧ qGl w U U.heap)
def qEd (w : qWp) (n : Nat) (m : qM) (st t : State) : Prop := t.heap.size = w.1 + n ∧ va_P (w.2.2.2.1, w.2.2.2.2.1) qCL (qws w n m) t.heap ∧ va_F (qAd w.1) st t
def qQc (w : qWp) (n : Nat) (m : qM) (o : Option (Option Value)) : Array Value → State → Outcome → State → Prop := fun _ st oc t => ∃ v, o = some v ∧ oc = .returned (v.map (qcv w.2.1)) ∧ qEd w n m st t
def qXC (w : qWp) (n : Nat) (m : qM) (o : Option (Option Value)) : String → State → State → Prop := fun E st t => o = none ∧ E = RX12 ∧ qEd w n m st t
def qRm (dp n n' : Nat) : Room := { frames := dp, cells := n' - n, slots := qss n' - qss n, locals := 64 * dp }
/-- a method at these arguments, in this world, ends so, in that one -/
def qMeet (y : MethodName) (cw : Jvm.Cond) (dp : Nat) (fin : Nat → Nat → Option Nat) (av : List Value) (n : Nat) (m : qM) (o : Option (Option Value)) (n' : Nat) (m' : qM) : Prop :=
  n ≤ n' ∧ (∀ (l : Launch) (w : qWp), qWo w → qFo fin w → vx_Met l y (cw :: qTw) (qRm dp n n') (qPcn w n m av) (qQc w n' m' o) (qXC w n' m' o) (n' - n) (qss n' - qss n) (qAd w.1))
theorem qPc_blind (w : qWp) (n : Nat) (m : qM) (av : List Value) : FrameBlind (qPcn w n m av) := by
  intro a U g mk q
  obtain ⟨q0, q1, qP, qK, qG⟩ := q
  exact ⟨q0, q1, qP, va_K.moved (u := U) (U := U.calling g mk a) (Vm.Alike.refl U.vm) qK, qGl_moved (u := U) (U := U.calling g mk a) (Vm.Alike.refl U.vm) (fun _ _ _ _ h => vk_R.same (u := U) (U := U.calling g mk a) rfl h) qG⟩
theorem qss_le {a b : Nat} (h : a ≤ b) : qss a ≤ qss b := by
  induction b with
  | zero => rw [Nat.le_zero.mp h]; exact Nat.le_refl _
  | succ b ih =>
    by_cases e : a = b + 1
    · rw [e]; exact Nat.le_refl _
    · exact Nat.le_trans (ih (by omega)) (by simp only [qss]; exact Nat.le_add_right _ _)
theorem qTw_word {x : Jvm.Cond} {args a' : Array Value} {s U : State} (hW : s.WarmedH U.vm) (hx : x ∈ qTw) (h : x.before args s = true) : x.before a' U = true := by
  have h1 := (List.mem_filter.mp hx).2
  simp only [qgw, Bool.or_eq_true, Bool.and_eq_true] at h1
  rcases h1 with g | ⟨g1, g2⟩
  · exact word_at hW (good_of_word g) h
  · exact Cond.onTables_warmH (T := U) hW g1 g2 h
section
variable {p : Program} {l : Launch} {e : Env} {R : Room} {s : State} {mi : MethodId} {args : Array Value} {below : List Frame} {meth : Method} {cd : Code} {w : qWp} {own : String} {cc : ByteArray} {nL dp n0 n1 n n' dp' : Nat} {fin : Nat → Nat → Option Nat} {pc : Nat} {m m' : qM} {o : Option (Option Value)} {av : List Value} {y : MethodName} {cw : Jvm.Cond}
/-- the heap's size, from the book that the machine keeps of the room -/
theorem qW_size {H : Heap} {locs : List Loc} {cells slots : Nat} {Q : State → Prop} {g : JFrame} (k : H.size ≤ s.heap.size + cells → W p l e R s mi args below meth cd H locs cells slots Q g) : W p l e R s mi args below meth cd H locs cells slots Q g := fun T hT X => k (by rw [← hT]; exact X.heapSize) T hT X
theorem qsize {H : Heap} {locs : List Loc} (hs : s.heap.size = w.1 + n0) (h0 : n0 ≤ n) (h : H.size ≤ s.heap.size + (n - n0)) (hP : va_P (w.2.2.2.1, w.2.2.2.2.1) qCL (qws w n m) H) (hS : va_S (qAd w.1) s.heap H locs) : H.size = w.1 + n := by
  by_cases e : n = n0
  · have := hS.1
    omega
  · have h1 := (hP (n - 1) _ (qws_at m (by omega))).lt
    simp only at h1
    omega
/-- what a call wants of a frame -/
theorem qPc_at {H : Heap} {locs : List Loc} (hK : va_K (w.2.2.2.1, w.2.2.2.2.1) qCL (qtys w.2.2.1) s) (hG : qGl w s s.heap) (hz : H.size = w.1 + n) (hP : va_P (w.2.2.2.1, w.2.2.2.2.1) qCL (qws w n m) H) (hS : va_S (qAd w.1) s.heap H locs) : ∀ U : State, U.heap = H → s.WarmedH U.vm → qPcn w n m av (av.map (qcv w.2.1)).toArray U := fun U hU hW =>
  ⟨rfl, by rw [hU]; exact hz, by rw [hU]; exact hP, va_K.moved hW.alike hK, qGl_moved hW.alike (fun _ _ _ _ h => vk_R.warm hW h) (by rw [hU]; exact qGl_kept hG hS.2.1)⟩
/-- behind a call -/
theorem qUse {H : Heap} {locs : List Loc} {Q : State → Prop} {ls : Array Slot} {st0 rest : List Value} {a : Array Value} (hn0 : n0 ≤ n) (hn : n ≤ n')
    (hr : vx_Run p l e R s mi args below meth cd H locs (n - n0) (qss n - qss n0) (n' - n) (qss n' - qss n) (F0 mi pc ls st0) rest (qQc w n' m' o a) (qXC w n' m' o) (qAd w.1)) (hS : va_S (qAd w.1) s.heap H locs)
    (kk : ∀ (v : Option Value) (H1 : Heap) (locs1 : List Loc), o = some v → va_P (w.2.2.2.1, w.2.2.2.2.1) qCL (qws w n' m') H1 → va_S (qAd w.1) s.heap H1 locs1 → W p l e R s mi args below meth cd H1 locs1 (n' - n0) (qss n' - qss n0) Q (F0 mi (pc + 3) ls ((v.map (qcv w.2.1)).toList ++ rest)))
    (kx : ∀ (H1 : Heap) (locs1 : List Loc) (q : Addr) (ce : Cell), o = none → va_P (w.2.2.2.1, w.2.2.2.2.1) qCL (qws w n' m') H1 → va_S (qAd w.1) s.heap H1 locs1 → H1[q]? = some ce → ce.vm = .none → s.vm.findClass RX12 = some ce.cls → vx_W p l e R s mi args below meth cd H1 locs1 (n' - n0) (qss n' - qss n0) Q (F0 mi pc ls rest) q) :
    W p l e R s mi args below meth cd H locs (n - n0) (qss n - qss n0) Q (F0 mi pc ls st0) := by
  intro T hT X
  have e1 : n - n0 + (n' - n) = n' - n0 := by omega
  have e2 : qss n - qss n0 + (qss n' - qss n) = qss n' - qss n0 := by
    have := qss_le hn0
    have := qss_le hn
    omega
  rcases hr T hT X with ⟨v, st₀, t, T', L, h0, X', hL, e3, e4, ⟨v', hv, ho, hz, hP, hF⟩, st⟩ | ⟨q, st₀, t, T', L, E, ce, h0, X', hL, e3, e4, ⟨ho, hE, hz, hP, hF⟩, hce, hcv, hcl, st⟩
  · rw [e1, e2] at X'
    cases ho
    obtain ⟨k1, k2, k3⟩ := vx_keep h0 e3 hS (fun _ _ h => h) (fun _ h => h) hL hF
    obtain ⟨t2, a1, b1⟩ := kk v' T'.heap (locs ++ L) hv (by rw [e3]; exact hP) k3 T' rfl X'
    exact ⟨t2, st t2 a1, b1⟩
  · rw [e1, e2] at X'
    subst hE
    obtain ⟨k1, k2, k3⟩ := vx_keep h0 e3 hS (fun _ _ h => h) (fun _ h => h) hL hF
    obtain ⟨t2, a1, b1⟩ := kx T'.heap (locs ++ L) q ce ho (by rw [e3]; exact hP) k3 (by rw [e3]; exact hce) hcv hcl T' rfl X'
    exact ⟨t2, st.trans a1, b1⟩
end
