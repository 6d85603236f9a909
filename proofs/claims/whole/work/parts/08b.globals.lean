/-! what lies outside -/
/-- texts that are constants: the class, its pool's entry, the text, its number -/
def qStr : List (String × Nat × String × Nat) := [("ParentEve$Policy", 54, "when", 10101), ("ParentEve$Policy", 74, "do and", 10104), ("ParentEve$Policy", 79, "late waiting left must here slot", 10102), ("ParentEve$Policy", 81, "above below is", 10103), ("ParentEve$Policy", 87, "skip full wait swap short pause", 10105), ("ParentEve$Rules", 51, "slot floor door late rest apart", 10100), ("ParentEveModel", 73, "slot", 10106), ("ParentEveModel", 75, "floor", 10107), ("ParentEveModel", 77, "door", 10108), ("ParentEveModel", 79, "late", 10109), ("ParentEveModel", 81, "rest", 10110), ("ParentEveModel", 83, "apart", 10111), ("ParentEveModel", 109, "when", 10101), ("ParentEveModel", 118, "and", 10119), ("ParentEveModel", 120, "do", 10120), ("ParentEveModel", 129, "waiting", 10112), ("ParentEveModel", 131, "left", 10113), ("ParentEveModel", 133, "must", 10114), ("ParentEveModel", 135, "here", 10115), ("ParentEveModel", 137, "above", 10116), ("ParentEveModel", 139, "below", 10117), ("ParentEveModel", 141, "is", 10118), ("ParentEveModel", 151, "skip", 10121), ("ParentEveModel", 153, "full", 10122), ("ParentEveModel", 155, "wait", 10123), ("ParentEveModel", 157, "swap", 10124), ("ParentEveModel", 159, "short", 10125), ("ParentEveModel", 161, "pause", 10126)]
/-- the bytes of the texts -/
def qTxt : List (List Int32) := [[115, 108, 111, 116, 32, 102, 108, 111, 111, 114, 32, 100, 111, 111, 114, 32, 108, 97, 116, 101, 32, 114, 101, 115, 116, 32, 97, 112, 97, 114, 116], [119, 104, 101, 110], [108, 97, 116, 101, 32, 119, 97, 105, 116, 105, 110, 103, 32, 108, 101, 102, 116, 32, 109, 117, 115, 116, 32, 104, 101, 114, 101, 32, 115, 108, 111, 116], [97, 98, 111, 118, 101, 32, 98, 101, 108, 111, 119, 32, 105, 115], [100, 111, 32, 97, 110, 100], [115, 107, 105, 112, 32, 102, 117, 108, 108, 32, 119, 97, 105, 116, 32, 115, 119, 97, 112, 32, 115, 104, 111, 114, 116, 32, 112, 97, 117, 115, 101], [115, 108, 111, 116], [102, 108, 111, 111, 114], [100, 111, 111, 114], [108, 97, 116, 101], [114, 101, 115, 116], [97, 112, 97, 114, 116], [119, 97, 105, 116, 105, 110, 103], [108, 101, 102, 116], [109, 117, 115, 116], [104, 101, 114, 101], [97, 98, 111, 118, 101], [98, 101, 108, 111, 119], [105, 115], [97, 110, 100], [100, 111], [115, 107, 105, 112], [102, 117, 108, 108], [119, 97, 105, 116], [115, 119, 97, 112], [115, 104, 111, 114, 116], [112, 97, 117, 115, 101]]
def qTlen (j : Nat) : Nat := (qTxt.getD j []).length
def qTb8 (j : Nat) : Nat → Int32 := fun i => (qTxt.getD j []).getD i 0
/-- what lies outside and stays: rows of numbers, statics, texts -/
def qGl (w : qWp) (U : State) (H : Heap) : Prop :=
  (∃ a, w.2.1 10000 = .ref a ∧ va_T .int a 6 (fun i => .int (qx10000 i)) (qAd w.1) U H) ∧ (∃ a, w.2.1 10001 = .ref a ∧ va_T .int a 6 (fun i => .int (qx10001 i)) (qAd w.1) U H) ∧ (∃ a, w.2.1 10002 = .ref a ∧ va_T .int a 6 (fun i => .int (qx10002 i)) (qAd w.1) U H) ∧
  va_Z "ParentEve" "RULE_UNTOLD" "[I" (w.2.1 10000) (qAd w.1) U H ∧ va_Z "ParentEve" "RULE_LEAST" "[I" (w.2.1 10001) (qAd w.1) U H ∧ va_Z "ParentEve" "RULE_GREATEST" "[I" (w.2.1 10002) (qAd w.1) U H ∧
  va_Z "java/lang/Throwable" "UNASSIGNED_STACK" "[Ljava/lang/StackTraceElement;" (w.2.1 10010) (qAd w.1) U H ∧ va_Z "java/lang/Throwable" "SUPPRESSED_SENTINEL" "Ljava/util/List;" (w.2.1 10011) (qAd w.1) U H ∧
  va_Z "java/lang/String" "COMPACT_STRINGS" "Z" (.int 1) (qAd w.1) U H ∧
  (∀ q ∈ qStr, ∃ a, w.2.1 q.2.2.2 = .ref a ∧ vk_R q.1 q.2.1 q.2.2.1 a U) ∧
  (∀ j, j < qTxt.length → ∃ a v, w.2.1 (10100 + j) = .ref a ∧ va_O "java/lang/String" a (qAd w.1) U H ∧ va_OF "java/lang/String" "coder" "B" (.int 0) a (qAd w.1) U H ∧ va_OF "java/lang/String" "value" "[B" (.ref v) a (qAd w.1) U H ∧ va_T .byte v (qTlen j) (fun i => .int (qTb8 j i)) (qAd w.1) U H ∧ w.2.1 (10200 + j) = .ref v) ∧
  va_Z "jdk/internal/util/Preconditions" "SIOOBE_FORMATTER" "Ljava/util/function/BiFunction;" (w.2.1 10012) (qAd w.1) U H ∧ va_AO RX5 U
theorem qGl_kept {w : qWp} {U : State} {H H1 : Heap} (h : qGl w U H) (hq : ∀ a : Nat, a < H.size → ¬ qAd w.1 a → H1[a]? = H[a]?) : qGl w U H1 := by
  obtain ⟨⟨a0, e0, t0⟩, ⟨a1, e1, t1⟩, ⟨a2, e2, t2⟩, z0, z1, z2, z3, z4, z5, hs, ht, z6, z7⟩ := h
  refine ⟨⟨a0, e0, t0.kept hq⟩, ⟨a1, e1, t1.kept hq⟩, ⟨a2, e2, t2.kept hq⟩, z0.kept hq, z1.kept hq, z2.kept hq, z3.kept hq, z4.kept hq, z5.kept hq, hs, fun j hj => ?_, z6.kept hq, z7⟩
  obtain ⟨a, v, k1, k2, k3, k4, k5, k6⟩ := ht j hj
  exact ⟨a, v, k1, k2.kept hq, k3.kept hq, k4.kept hq, k5.kept hq, k6⟩
theorem qGl_moved {w : qWp} {u U : State} {H : Heap} (hvm : u.vm.Alike U.vm) (hr : ∀ (o : String) (k : Nat) (x : String) (a : Nat), vk_R o k x a u → vk_R o k x a U) (h : qGl w u H) : qGl w U H := by
  obtain ⟨⟨a0, e0, t0⟩, ⟨a1, e1, t1⟩, ⟨a2, e2, t2⟩, z0, z1, z2, z3, z4, z5, hs, ht, z6, z7⟩ := h
  refine ⟨⟨a0, e0, t0.moved hvm⟩, ⟨a1, e1, t1.moved hvm⟩, ⟨a2, e2, t2.moved hvm⟩, z0.moved hvm, z1.moved hvm, z2.moved hvm, z3.moved hvm, z4.moved hvm, z5.moved hvm, fun q hq => ?_, fun j hj => ?_, z6.moved hvm, z7.moved hvm⟩
  · obtain ⟨a, k1, k2⟩ := hs q hq
    exact ⟨a, k1, hr _ _ _ _ k2⟩
  · obtain ⟨a, v, k1, k2, k3, k4, k5, k6⟩ := ht j hj
    exact ⟨a, v, k1, k2.moved hvm, k3.moved hvm, k4.moved hvm, k5.moved hvm, k6⟩
