/-! calls -/
/-- texts that are constants: the class, its pool's entry, the text, its number -/
def qStr : List (String × Nat × String × Nat) := [("ParentEve$Policy", 54, "when", 10101), ("ParentEve$Policy", 74, "do and", 10104), ("ParentEve$Policy", 79, "late waiting left must here slot", 10102), ("ParentEve$Policy", 81, "above below is", 10103), ("ParentEve$Policy", 87, "skip full wait swap short pause", 10105), ("ParentEve$Rules", 51, "slot floor door late rest apart", 10100), ("ParentEveModel", 73, "slot", 10106), ("ParentEveModel", 75, "floor", 10107), ("ParentEveModel", 77, "door", 10108), ("ParentEveModel", 79, "late", 10109), ("ParentEveModel", 81, "rest", 10110), ("ParentEveModel", 83, "apart", 10111), ("ParentEveModel", 109, "when", 10101), ("ParentEveModel", 118, "and", 10119), ("ParentEveModel", 120, "do", 10120), ("ParentEveModel", 129, "waiting", 10112), ("ParentEveModel", 131, "left", 10113), ("ParentEveModel", 133, "must", 10114), ("ParentEveModel", 135, "here", 10115), ("ParentEveModel", 137, "above", 10116), ("ParentEveModel", 139, "below", 10117), ("ParentEveModel", 141, "is", 10118), ("ParentEveModel", 151, "skip", 10121), ("ParentEveModel", 153, "full", 10122), ("ParentEveModel", 155, "wait", 10123), ("ParentEveModel", 157, "swap", 10124), ("ParentEveModel", 159, "short", 10125), ("ParentEveModel", 161, "pause", 10126)]
/-- the bytes of the texts -/
def qTxt : List (List Int32) := [[115, 108, 111, 116, 32, 102, 108, 111, 111, 114, 32, 100, 111, 111, 114, 32, 108, 97, 116, 101, 32, 114, 101, 115, 116, 32, 97, 112, 97, 114, 116], [119, 104, 101, 110], [108, 97, 116, 101, 32, 119, 97, 105, 116, 105, 110, 103, 32, 108, 101, 102, 116, 32, 109, 117, 115, 116, 32, 104, 101, 114, 101, 32, 115, 108, 111, 116], [97, 98, 111, 118, 101, 32, 98, 101, 108, 111, 119, 32, 105, 115], [100, 111, 32, 97, 110, 100], [115, 107, 105, 112, 32, 102, 117, 108, 108, 32, 119, 97, 105, 116, 32, 115, 119, 97, 112, 32, 115, 104, 111, 114, 116, 32, 112, 97, 117, 115, 101], [115, 108, 111, 116], [102, 108, 111, 111, 114], [100, 111, 111, 114], [108, 97, 116, 101], [114, 101, 115, 116], [97, 112, 97, 114, 116], [119, 97, 105, 116, 105, 110, 103], [108, 101, 102, 116], [109, 117, 115, 116], [104, 101, 114, 101], [97, 98, 111, 118, 101], [98, 101, 108, 111, 119], [105, 115], [97, 110, 100], [100, 111], [115, 107, 105, 112], [102, 117, 108, 108], [119, 97, 105, 116], [115, 119, 97, 112], [115, 104, 111, 114, 116], [112, 97, 117, 115, 101]]
def qTlen (j : Nat) : Nat := (qTxt.getD j []).length
def qTb8 (j : Nat) : Nat → Int32 := fun i => (qTxt.getD j []).getD i 0
/-- what lies outside and stays: rows of numbers, statics, texts -/
def qGl (w : qWp) (U : State) (H : Heap) : Prop :=
  (∃ a, w.2.1 10000 = .ref a ∧ va_T .int a 6 (fun i => .int (qx10000 i)) (qAd w.1) U H) ∧ (∃ a, w.2.1 10001 = .ref a ∧ va_T .int a 6 (fun i => .int (qx10001 i)) (qAd w.1) U H) ∧ (∃ a, w.2.1 10002 = .ref a ∧ va_T .int a 6 (fun i => .int (qx10002 i)) (qAd w.1) U H) ∧
  va_Z "ParentEve" "RULE_UNTOLD" "[I" (w.2.1 10000) (qAd w.1) U H ∧ va_Z "ParentEve" "RULE_LEAST" "[I" (w.2.1 10001) (qAd w.1) U H ∧ va_Z "ParentEve" "RULE_GREATEST" "[I" (w.2.1 10002) (qAd w.1) U H ∧
  va_Z "java/lang/Throwable" "UNASSIGNED_STACK" "[Ljava/lang/StackTraceElement;" (w.2.1 10010) (qAd w.1) U H ∧ va_Z "java/lang/Throwable" "SUPPRESSED_SENTINEL" "Ljava/util/List;" (w.2.1 10011) (qAd w.1) U H ∧
  va_Z "java/lang/String" "COMPACT_STRINGS" "Z" (.int 1) (qAd w.1) U H ∧
  (∀ q ∈ qStr, ∃ a, w.2.1 q.2.2.2 = .ref a ∧ vk_R q.1 q.2.1 q.2.2.1 a U) ∧
  (∀ j, j < qTxt.length → ∃ a v, w.2.1 (10100 + j) = .ref a ∧ va_O "java/lang/String" a (qAd w.1) U H ∧ va_OF "java/lang/String" "coder" "B" (.int 0) a (qAd w.1) U H ∧ va_OF "java/lang/String" "value" "[B" (.ref v) a (qAd w.1) U H ∧ va_T .byte v (qTlen j) (fun i => .int (qTb8 j i)) (qAd w.1) U H)
theorem qGl_kept {w : qWp} {U : State} {H H1 : Heap} (h : qGl w U H) (hq : ∀ a : Nat, a < H.size → ¬ qAd w.1 a → H1[a]? = H[a]?) : qGl w U H1 := by
  obtain ⟨⟨a0, e0, t0⟩, ⟨a1, e1, t1⟩, ⟨a2, e2, t2⟩, z0, z1, z2, z3, z4, z5, hs, ht⟩ := h
  refine ⟨⟨a0, e0, t0.kept hq⟩, ⟨a1, e1, t1.kept hq⟩, ⟨a2, e2, t2.kept hq⟩, z0.kept hq, z1.kept hq, z2.kept hq, z3.kept hq, z4.kept hq, z5.kept hq, hs, fun j hj => ?_⟩
  obtain ⟨a, v, k1, k2, k3, k4, k5⟩ := ht j hj
  exact ⟨a, v, k1, k2.kept hq, k3.kept hq, k4.kept hq, k5.kept hq⟩
theorem qGl_moved {w : qWp} {u U : State} {H : Heap} (hvm : u.vm.Alike U.vm) (hr : ∀ (o : String) (k : Nat) (x : String) (a : Nat), vk_R o k x a u → vk_R o k x a U) (h : qGl w u H) : qGl w U H := by
  obtain ⟨⟨a0, e0, t0⟩, ⟨a1, e1, t1⟩, ⟨a2, e2, t2⟩, z0, z1, z2, z3, z4, z5, hs, ht⟩ := h
  refine ⟨⟨a0, e0, t0.moved hvm⟩, ⟨a1, e1, t1.moved hvm⟩, ⟨a2, e2, t2.moved hvm⟩, z0.moved hvm, z1.moved hvm, z2.moved hvm, z3.moved hvm, z4.moved hvm, z5.moved hvm, fun q hq => ?_, fun j hj => ?_⟩
  · obtain ⟨a, k1, k2⟩ := hs q hq
    exact ⟨a, k1, hr _ _ _ _ k2⟩
  · obtain ⟨a, v, k1, k2, k3, k4, k5⟩ := ht j hj
    exact ⟨a, v, k1, k2.moved hvm, k3.moved hvm, k4.moved hvm, k5.moved hvm⟩
def qWo (w : qWp) : Prop := (∀ i, i < 1000 → w.2.1 i = .ref (w.1 + i)) ∧ qXr w.2.1
def qPcn (w : qWp) (n : Nat) (m : qM) (av : List Value) : Array Value → State → Prop := va_Pc (av.map (qcv w.2.1)) (fun U => U.heap.size = w.1 + n ∧ va_P (w.2.2.2.1, w.2.2.2.2) qCL (qws w n m) U.heap ∧ va_K (w.2.2.2.1, w.2.2.2.2) qCL (qtys w.2.2.1) U ∧ qGl w U U.heap)
def qEd (w : qWp) (n : Nat) (m : qM) (st t : State) : Prop := t.heap.size = w.1 + n ∧ va_P (w.2.2.2.1, w.2.2.2.2) qCL (qws w n m) t.heap ∧ va_F (qAd w.1) st t
def qQc (w : qWp) (n : Nat) (m : qM) (o : Option (Option Value)) : Array Value → State → Outcome → State → Prop := fun _ st oc t => ∃ v, o = some v ∧ oc = .returned (v.map (qcv w.2.1)) ∧ qEd w n m st t
def qXC (w : qWp) (n : Nat) (m : qM) (o : Option (Option Value)) : String → State → State → Prop := fun E st t => o = none ∧ E = RX12 ∧ qEd w n m st t
def qRm (dp n n' : Nat) : Room := { frames := dp, cells := n' - n, slots := qss n' - qss n, locals := 64 * dp }
/-- a method at these arguments, in this world, ends so, in that one -/
def qMeet (y : MethodName) (cw : Jvm.Cond) (dp : Nat) (fin : Nat → Nat → Option Nat) (av : List Value) (n : Nat) (m : qM) (o : Option (Option Value)) (n' : Nat) (m' : qM) : Prop :=
  n ≤ n' ∧ (qFo fin m → qFo fin m' ∧ ∀ (l : Launch) (w : qWp), qWo w → vx_Met l y (cw :: qTw) (qRm dp n n') (qPcn w n m av) (qQc w n' m' o) (qXC w n' m' o) (n' - n) (qss n' - qss n) (qAd w.1))
theorem qPc_blind (w : qWp) (n : Nat) (m : qM) (av : List Value) : FrameBlind (qPcn w n m av) := by
  intro a U g mk q
  obtain ⟨q0, q1, qP, qK, qG⟩ := q
  exact ⟨q0, q1, qP, va_K.moved (u := U) (U := U.calling g mk a) (Vm.Alike.refl U.vm) qK, qGl_moved (u := U) (U := U.calling g mk a) (Vm.Alike.refl U.vm) (fun _ _ _ _ h => vk_R.same (u := U) (U := U.calling g mk a) rfl h) qG⟩
theorem qss_le {a b : Nat} (h : a ≤ b) : qss a ≤ qss b := by
  induction b with
  | zero => rw [Nat.le_zero.mp h]; exact Nat.le_refl _
  | succ b ih =>
    by_cases e : a = b + 1
    · rw [e]; exact Nat.le_refl _
    · exact Nat.le_trans (ih (by omega)) (by simp only [qss]; exact Nat.le_add_right _ _)
theorem qTw_good {x : Jvm.Cond} (h : x ∈ qTw) : (x.onTables && x.keeps) = true ∨ ∃ ty, x = .arrayClass ty := good_of_word (List.mem_filter.mp h).2
section
variable {p : Program} {l : Launch} {e : Env} {R : Room} {s : State} {mi : MethodId} {args : Array Value} {below : List Frame} {meth : Method} {cd : Code} {w : qWp} {own : String} {cc : ByteArray} {nL dp n0 n1 n n' dp' : Nat} {fin : Nat → Nat → Option Nat} {pc : Nat} {m m' : qM} {o : Option (Option Value)} {av : List Value} {y : MethodName} {cw : Jvm.Cond}
/-- the heap's size, from the book that the machine keeps of the room -/
theorem qW_size {H : Heap} {locs : List Loc} {cells slots : Nat} {Q : State → Prop} {g : JFrame} (k : H.size ≤ s.heap.size + cells → W p l e R s mi args below meth cd H locs cells slots Q g) : W p l e R s mi args below meth cd H locs cells slots Q g := fun T hT X => k (by rw [← hT]; exact X.heapSize) T hT X
theorem qsize {H : Heap} {locs : List Loc} (hs : s.heap.size = w.1 + n0) (h0 : n0 ≤ n) (h : H.size ≤ s.heap.size + (n - n0)) (hP : va_P (w.2.2.2.1, w.2.2.2.2) qCL (qws w n m) H) (hS : va_S (qAd w.1) s.heap H locs) : H.size = w.1 + n := by
  by_cases e : n = n0
  · have := hS.1
    omega
  · have h1 := (hP (n - 1) _ (qws_at m (by omega))).lt
    simp only at h1
    omega
/-- what a call wants of a frame -/
theorem qPc_at {H : Heap} {locs : List Loc} (hK : va_K (w.2.2.2.1, w.2.2.2.2) qCL (qtys w.2.2.1) s) (hG : qGl w s s.heap) (hz : H.size = w.1 + n) (hP : va_P (w.2.2.2.1, w.2.2.2.2) qCL (qws w n m) H) (hS : va_S (qAd w.1) s.heap H locs) : ∀ U : State, U.heap = H → s.WarmedH U.vm → qPcn w n m av (av.map (qcv w.2.1)).toArray U := fun U hU hW =>
  ⟨rfl, by rw [hU]; exact hz, by rw [hU]; exact hP, va_K.moved hW.alike hK, qGl_moved hW.alike (fun _ _ _ _ h => vk_R.warm hW h) (by rw [hU]; exact qGl_kept hG hS.2.1)⟩
/-- behind a call -/
theorem qUse {H : Heap} {locs : List Loc} {Q : State → Prop} {ls : Array Slot} {st0 rest : List Value} {a : Array Value} (hn0 : n0 ≤ n) (hn : n ≤ n')
    (hr : vx_Run p l e R s mi args below meth cd H locs (n - n0) (qss n - qss n0) (n' - n) (qss n' - qss n) (F0 mi pc ls st0) rest (qQc w n' m' o a) (qXC w n' m' o) (qAd w.1)) (hS : va_S (qAd w.1) s.heap H locs)
    (kk : ∀ (v : Option Value) (H1 : Heap) (locs1 : List Loc), o = some v → va_P (w.2.2.2.1, w.2.2.2.2) qCL (qws w n' m') H1 → va_S (qAd w.1) s.heap H1 locs1 → W p l e R s mi args below meth cd H1 locs1 (n' - n0) (qss n' - qss n0) Q (F0 mi (pc + 3) ls ((v.map (qcv w.2.1)).toList ++ rest)))
    (kx : ∀ (H1 : Heap) (locs1 : List Loc) (q : Addr) (ce : Cell), o = none → va_P (w.2.2.2.1, w.2.2.2.2) qCL (qws w n' m') H1 → va_S (qAd w.1) s.heap H1 locs1 → H1[q]? = some ce → ce.vm = .none → s.vm.findClass RX12 = some ce.cls → vx_W p l e R s mi args below meth cd H1 locs1 (n' - n0) (qss n' - qss n0) Q (F0 mi pc ls rest) q) :
    W p l e R s mi args below meth cd H locs (n - n0) (qss n - qss n0) Q (F0 mi pc ls st0) := by
  intro T hT X
  have e1 : n - n0 + (n' - n) = n' - n0 := by omega
  have e2 : qss n - qss n0 + (qss n' - qss n) = qss n' - qss n0 := by
    have := qss_le hn0
    have := qss_le hn
    omega
  rcases hr T hT X with ⟨v, st₀, t, T', L, h0, X', hL, e3, e4, ⟨v', hv, ho, hz, hP, hF⟩, st⟩ | ⟨q, st₀, t, T', L, E, ce, h0, X', hL, e3, e4, ⟨ho, hE, hz, hP, hF⟩, hce, hcv, hcl, st⟩
  · rw [e1, e2] at X'
    cases ho
    obtain ⟨k1, k2, k3⟩ := vx_keep h0 e3 hS (fun _ _ h => h) (fun _ h => h) hL hF
    obtain ⟨t2, a1, b1⟩ := kk v' T'.heap (locs ++ L) hv (by rw [e3]; exact hP) k3 T' rfl X'
    exact ⟨t2, st t2 a1, b1⟩
  · rw [e1, e2] at X'
    subst hE
    obtain ⟨k1, k2, k3⟩ := vx_keep h0 e3 hS (fun _ _ h => h) (fun _ h => h) hL hF
    obtain ⟨t2, a1, b1⟩ := kx T'.heap (locs ++ L) q ce ho (by rw [e3]; exact hP) k3 (by rw [e3]; exact hce) hcv hcl T' rfl X'
    exact ⟨t2, st.trans a1, b1⟩
end
