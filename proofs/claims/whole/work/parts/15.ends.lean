/-! ends of methods; a method out of its chain -/
/-- what is known of the method itself -/
def qMt (C : qCx) (ret : Option FieldType) : Prop := C.2.2.2.2.2.2.2.2.1.sig.returnType = ret ∧ C.2.2.2.2.2.2.2.2.1.locks = false
/-- no handlers -/
def qNx (C : qCx) : Prop := ∀ x ∈ C.2.2.2.2.2.2.2.2.2.exceptionTable.toList, False
def qQf {ρ : Type} (C : qCx) (w : qWp) (n n' : Nat) (J : ρ → Option (Option Value) × qM) : ρ → State → Prop := fun r => match C with
  | (_, _, _, _, s, _, args, below, _, _) => vx_MQ below (qQc w n' (J r).2 (J r).1) (qXC w n' (J r).2 (J r).1) args s (n' - n) (qss n' - qss n) (qAd w.1)
def jV (r : Unit × qM) : Option (Option Value) × qM := (some none, r.2)
def jI (r : Int32 × qM) : Option (Option Value) × qM := (some (some (.int r.1)), r.2)
def jL (r : Int64 × qM) : Option (Option Value) × qM := (some (some (.long r.1)), r.2)
def jR (r : Option Nat × qM) : Option (Option Value) × qM := (some (some (qrv r.1)), r.2)
def jIX (r : Option Int32 × qM) : Option (Option Value) × qM := (r.1.map fun x => some (.int x), r.2)
def jVX (r : Option Unit × qM) : Option (Option Value) × qM := (r.1.map fun _ => none, r.2)
theorem qlocs {A : Nat → Prop} {H0 H : Heap} {locs : List Loc} (h : va_S A H0 H locs) : ∀ q ∈ locs, A q.base := h.2.2
section
variable {p : Program} {l : Launch} {e : Env} {R : Room} {s : State} {m : MethodId} {args : Array Value} {below : List Frame} {meth : Method} {c : Code} {H : Heap} {locs : List Loc} {cells slots : Nat}
/-- a small number's end: what is answered is cut to its type (as W.zret, for a number that the cutting may change) -/
theorem qWret {cc : ByteArray} {Qc : Array Value → State → Outcome → State → Prop} {free : Addr → Prop} {v v' : Int32} {ty : FieldType} (hexec : p.tables.exec = Jvm.exec) (hb : c.code = cc) (hr : meth.sig.returnType = some ty) (hn : narrow ty (.int v) = .int v')
    (hq : ∀ t : State, t.heap = H → s.WarmedH t.vm → Qc args s (.returned (some (.int v'))) t) (hf : ∀ q ∈ locs, free q.base)
    {pc : Nat} {ls : Array Slot} (hdg : decode cc pc = .ok (.ireturn, 1)) (hlocks : meth.locks = false) : W p l e R s m args below meth c H locs cells slots (MQ below Qc args s cells slots free) (F0 m pc ls [.int v]) := by
  intro T hT X
  obtain ⟨fs, hret, hrun, hended, hW, hframe⟩ := X.leave (v := some (.int v')) (fun h => by rw [hr] at h; cases h)
  have hmeth' : T.vm.method? m = some meth := X.method'
  refine ⟨T.setFrames fs, ?_, .returned (some (.int v')), hrun, hended, hq _ hT hW, locs, ⟨⟨_, rfl⟩, hW, hframe⟩, hf⟩
  jvm_step X.here [X.here.top, hexec, hb, hdg, hmeth', hr, hn]
  (try refine ⟨rfl, ?_⟩); (try refine ⟨rfl, ?_⟩)
  first | (intro acts; rw [hret _ acts rfl rfl rfl]) | rw [hret _ _ rfl rfl rfl]
  exact Steps.refl _
end
section
variable {C : qCx} {w : qWp} {own : String} {cc : ByteArray} {nL dp n0 n1 : Nat} {fin : Nat → Nat → Option Nat} {n pc : Nat}
theorem qEnd_of {m : qM} {s t : State} {H : Heap} {locs : List Loc} (ht : t.heap = H) (hz : H.size = w.1 + n) (hP : va_P (w.2.2.2.1, w.2.2.2.2.1) qCL (qws w n m) H) (hS : va_S (qAd w.1) s.heap H locs) : qEd w n m s t := ⟨by rw [ht]; exact hz, by rw [ht]; exact hP, hS.F ht⟩
theorem zI (h : qOk C w own cc nL dp n0 n1) (hm : qMt C (some .int)) (hn0 : n0 ≤ n) (d : decode cc pc = .ok (.ireturn, 1)) : qSnd C w nL n0 (qQf C w n0 n jI) fin n pc eI := by
  intro lo st m r hr hF H ls locs a2 a3 a4
  unfold eI at hr
  split at hr
  · cases hr
    obtain ⟨p, l, e, R, s, mi, args, below, meth, cd⟩ := C
    have hsz := h.2.2.2.2.2.2.2.2.2.2.2.2.1
    refine qW_size (fun hz => ?_)
    have hz2 := qsize hsz hn0 hz a2 a3
    exact vx_ret (W.iret h.1 h.2.1 hm.1 (fun t ht hW => ⟨_, rfl, rfl, qEnd_of ht hz2 a2 a3⟩) (qlocs a3) d hm.2)
  · cases hr
theorem zZ (h : qOk C w own cc nL dp n0 n1) (hm : qMt C (some .boolean)) (hn0 : n0 ≤ n) (d : decode cc pc = .ok (.ireturn, 1)) : qSnd C w nL n0 (qQf C w n0 n jI) fin n pc eZ := by
  intro lo st m r hr hF H ls locs a2 a3 a4
  unfold eZ at hr
  split at hr
  · rename_i x
    cases hr
    obtain ⟨p, l, e, R, s, mi, args, below, meth, cd⟩ := C
    have hsz := h.2.2.2.2.2.2.2.2.2.2.2.2.1
    refine qW_size (fun hz => ?_)
    have hz2 := qsize hsz hn0 hz a2 a3
    exact vx_ret (qWret (v' := nz x) h.1 h.2.1 hm.1 (by rw [nz_d]; rfl) (fun t ht hW => ⟨_, rfl, rfl, qEnd_of ht hz2 a2 a3⟩) (qlocs a3) d hm.2)
  · cases hr
theorem zL (h : qOk C w own cc nL dp n0 n1) (hm : qMt C (some .long)) (hn0 : n0 ≤ n) (d : decode cc pc = .ok (.lreturn, 1)) : qSnd C w nL n0 (qQf C w n0 n jL) fin n pc eL := by
  intro lo st m r hr hF H ls locs a2 a3 a4
  unfold eL at hr
  split at hr
  · cases hr
    obtain ⟨p, l, e, R, s, mi, args, below, meth, cd⟩ := C
    have hsz := h.2.2.2.2.2.2.2.2.2.2.2.2.1
    refine qW_size (fun hz => ?_)
    have hz2 := qsize hsz hn0 hz a2 a3
    exact vx_ret (W.lret h.1 h.2.1 hm.1 (fun t ht hW => ⟨_, rfl, rfl, qEnd_of ht hz2 a2 a3⟩) (qlocs a3) d hm.2)
  · cases hr
theorem zV (h : qOk C w own cc nL dp n0 n1) (hm : qMt C none) (hn0 : n0 ≤ n) (d : decode cc pc = .ok (.return_, 1)) : qSnd C w nL n0 (qQf C w n0 n jV) fin n pc eV := by
  intro lo st m r hr hF H ls locs a2 a3 a4
  unfold eV at hr
  split at hr
  · cases hr
    obtain ⟨p, l, e, R, s, mi, args, below, meth, cd⟩ := C
    have hsz := h.2.2.2.2.2.2.2.2.2.2.2.2.1
    refine qW_size (fun hz => ?_)
    have hz2 := qsize hsz hn0 hz a2 a3
    exact vx_ret (W.vret h.1 h.2.1 hm.1 (fun t ht hW => ⟨_, rfl, rfl, qEnd_of ht hz2 a2 a3⟩) (qlocs a3) d hm.2)
  · cases hr
theorem zR {cn : String} (h : qOk C w own cc nL dp n0 n1) (hm : qMt C (some (.object cn))) (hn0 : n0 ≤ n) (d : decode cc pc = .ok (.areturn, 1)) : qSnd C w nL n0 (qQf C w n0 n jR) fin n pc eR := by
  intro lo st m r hr hF H ls locs a2 a3 a4
  have hXr := qOk_Xr h
  unfold eR at hr
  split at hr
  · rename_i x
    cases hr
    obtain ⟨p, l, e, R, s, mi, args, below, meth, cd⟩ := C
    have hsz := h.2.2.2.2.2.2.2.2.2.2.2.2.1
    refine qW_size (fun hz => ?_)
    have hz2 := qsize hsz hn0 hz a2 a3
    exact vx_ret (W.aret (v := w.2.1 x) h.1 h.2.1 hm.1 (Or.inl ⟨_, rfl⟩) (hXr x) (fun t ht hW => ⟨_, rfl, rfl, qEnd_of ht hz2 a2 a3⟩) (qlocs a3) d hm.2)
  · cases hr
    obtain ⟨p, l, e, R, s, mi, args, below, meth, cd⟩ := C
    have hsz := h.2.2.2.2.2.2.2.2.2.2.2.2.1
    refine qW_size (fun hz => ?_)
    have hz2 := qsize hsz hn0 hz a2 a3
    exact vx_ret (W.aret (v := .null) h.1 h.2.1 hm.1 (Or.inl ⟨_, rfl⟩) (Or.inl rfl) (fun t ht hW => ⟨_, rfl, rfl, qEnd_of ht hz2 a2 a3⟩) (qlocs a3) d hm.2)
  · cases hr
theorem zVX (h : qOk C w own cc nL dp n0 n1) (hm : qMt C none) (hn0 : n0 ≤ n) (d : decode cc pc = .ok (.return_, 1)) : qSnd C w nL n0 (qQf C w n0 n jVX) fin n pc eVX := by
  intro lo st m r hr hF H ls locs a2 a3 a4
  unfold eVX at hr
  split at hr
  · cases hr
    obtain ⟨p, l, e, R, s, mi, args, below, meth, cd⟩ := C
    have hsz := h.2.2.2.2.2.2.2.2.2.2.2.2.1
    refine qW_size (fun hz => ?_)
    have hz2 := qsize hsz hn0 hz a2 a3
    exact vx_ret (W.vret h.1 h.2.1 hm.1 (fun t ht hW => ⟨_, rfl, rfl, qEnd_of ht hz2 a2 a3⟩) (qlocs a3) d hm.2)
  · cases hr
theorem zIX (h : qOk C w own cc nL dp n0 n1) (hm : qMt C (some .int)) (hn0 : n0 ≤ n) (d : decode cc pc = .ok (.ireturn, 1)) : qSnd C w nL n0 (qQf C w n0 n jIX) fin n pc eIX := by
  intro lo st m r hr hF H ls locs a2 a3 a4
  unfold eIX at hr
  split at hr
  · cases hr
    obtain ⟨p, l, e, R, s, mi, args, below, meth, cd⟩ := C
    have hsz := h.2.2.2.2.2.2.2.2.2.2.2.2.1
    refine qW_size (fun hz => ?_)
    have hz2 := qsize hsz hn0 hz a2 a3
    exact vx_ret (W.iret h.1 h.2.1 hm.1 (fun t ht hW => ⟨_, rfl, rfl, qEnd_of ht hz2 a2 a3⟩) (qlocs a3) d hm.2)
  · cases hr
/-- thrown, and not caught here -/
theorem zX {ρ : Type} {J : ρ → Option (Option Value) × qM} {t : qT ρ} (hJ : ∀ lo m r, t lo [] m = some r → J r = (none, m)) (h : qOk C w own cc nL dp n0 n1) (hm : qMt C ret) (hx : qNx C) (hn0 : n0 ≤ n) : qSnx C w nL n0 (qQf C w n0 n J) fin n pc t := by
  intro lo rest m r hr hF H ls locs q ce a2 a3 a4 g1 g2 g3
  have hj := hJ lo m r hr
  obtain ⟨p, l, e, R, s, mi, args, below, meth, cd⟩ := C
  have hsz := h.2.2.2.2.2.2.2.2.2.2.2.2.1
  intro T hT X
  have hz2 := qsize hsz hn0 (by rw [← hT]; exact X.heapSize) a2 a3
  have hg : vx_W p l e R s mi args below meth cd H locs (n - n0) (qss n - qss n0) (qQf (p, l, e, R, s, mi, args, below, meth, cd) w n0 n J r) (F0 mi pc ls rest) q := by
    unfold qQf
    rw [hj]
    exact vx_out (E := RX12) (fun x hxx => absurd (hx x hxx) not_false) hm.2 g1 g2 g3 (fun t ht hW => ⟨rfl, rfl, qEnd_of ht hz2 a2 a3⟩) (qlocs a3) (Nat.le_refl _) (Nat.le_refl _)
  exact hg T hT X
/-- the Stop is thrown -/
theorem zT {ρ : Type} {J : ρ → Option (Option Value) × qM} {t : qT ρ} (hJ : ∀ lo st m r, t lo st m = some r → J r = (none, m) ∧ ∃ s, st = .ref 109 :: s) (h : qOk C w own cc nL dp n0 n1) (hm : qMt C ret) (hx : qNx C) (hn0 : n0 ≤ n) (hn : 109 < n) (hN : n ≤ 1000) (d : decode cc pc = .ok (.athrow, 1)) : qSnd C w nL n0 (qQf C w n0 n J) fin n pc t := by
  intro lo st m r hr hF H ls locs a2 a3 a4
  obtain ⟨hj, st', rfl⟩ := hJ lo st m r hr
  have hX := qX_at (qOk_X h) hn hN
  obtain ⟨p, l, e, R, s, mi, args, below, meth, cd⟩ := C
  have hsz := h.2.2.2.2.2.2.2.2.2.2.2.2.1
  refine qW_size (fun hz => ?_)
  have hz2 := qsize hsz hn0 hz a2 a3
  rw [List.map_cons, hX]
  have he := a2 109 _ (qws_at m hn)
  obtain ⟨r9, k1, ce, k2, k3, k4, -⟩ := he
  have hcl : s.vm.findClass RX12 = some ce.cls := by
    rw [k3]
    exact (h.2.2.2.2.2.1.1 12 (RX12, TX12, 6) rfl).2.1
  refine vx_athrow h.1 h.2.1 d ?_
  unfold qQf
  rw [hj]
  exact vx_out (E := RX12) (fun x hxx => absurd (hx x hxx) not_false) hm.2 k2 k4 hcl (fun t ht hW => ⟨rfl, rfl, qEnd_of ht hz2 a2 a3⟩) (qlocs a3) (Nat.le_refl _) (Nat.le_refl _)
theorem eTv_J : ∀ lo st m r, eTv lo st m = some r → jVX r = (none, m) ∧ ∃ s, st = .ref 109 :: s := by
  intro lo st m r h
  unfold eTv at h
  split at h
  · obtain ⟨rfl, h1⟩ := qbeq h
    cases h1
    exact ⟨rfl, _, rfl⟩
  · cases h
theorem eTi_J : ∀ lo st m r, eTi lo st m = some r → jIX r = (none, m) ∧ ∃ s, st = .ref 109 :: s := by
  intro lo st m r h
  unfold eTi at h
  split at h
  · obtain ⟨rfl, h1⟩ := qbeq h
    cases h1
    exact ⟨rfl, _, rfl⟩
  · cases h
theorem eXv_J : ∀ lo m r, eXv lo [] m = some r → jVX r = (none, m) := by
  intro lo m r h
  cases h
  rfl
theorem eXi_J : ∀ lo m r, eXi lo [] m = some r → jIX r = (none, m) := by
  intro lo m r h
  cases h
  rfl
end
/-! the locals with which a method begins -/
def qrep : Nat → qLo
  | 0 => []
  | n + 1 => none :: qrep n
def qw2 (v : Value) : Bool := match v with
  | .long _ => true
  | .double _ => true
  | _ => false
def qlo : List Value → Nat → qLo
  | [], n => qrep n
  | v :: l, n => bif qw2 v then (match n with
    | n + 2 => some v :: none :: qlo l n
    | _ => []) else (match n with
    | n + 1 => some v :: qlo l n
    | 0 => [])
theorem qlo_cons (v : Value) (l : List Value) (n : Nat) : qlo (v :: l) n = bif qw2 v then (match n with
    | n + 2 => some v :: none :: qlo l n
    | _ => []) else (match n with
    | n + 1 => some v :: qlo l n
    | 0 => []) := by
  cases n with
  | zero => rfl
  | succ n => cases n <;> rfl
def qwd : List Value → Nat
  | [] => 0
  | v :: l => (bif qw2 v then 2 else 1) + qwd l
theorem qw2_cat (v : Value) : qw2 v = true ↔ v.category = 2 := by cases v <;> simp [qw2, Value.category]
theorem qrep_len : ∀ n, (qrep n).length = n
  | 0 => rfl
  | n + 1 => by simp [qrep, qrep_len n]
theorem qrep_get : ∀ (n i : Nat) (v : Value), (qrep n)[i]? ≠ some (some v)
  | 0, i, v => by simp [qrep]
  | n + 1, 0, v => by simp [qrep]
  | n + 1, i + 1, v => by simpa [qrep] using qrep_get n i v
theorem qlo_len : ∀ (l : List Value) (n : Nat), (qlo l n).length ≤ n
  | [], n => by rw [qlo, qrep_len]; exact Nat.le_refl _
  | v :: l, n => by
    rw [qlo_cons]
    cases qw2 v with
    | true =>
      match n with
      | 0 => exact Nat.le_refl _
      | 1 => exact Nat.zero_le _
      | n + 2 =>
        have := qlo_len l n
        simp only [cond_true, List.length_cons]
        omega
    | false =>
      match n with
      | 0 => exact Nat.le_refl _
      | n + 1 =>
        have := qlo_len l n
        simp only [cond_false, List.length_cons]
        omega
theorem qlo_get {X : Nat → Value} (hX : qXr X) : ∀ (l : List Value) (n k i : Nat) (v : Value), (qlo l n)[i]? = some (some v) → (k + i, qcv X v) ∈ lv_args k (l.map (qcv X))
  | [], n, k, i, v, h => absurd h (by rw [qlo]; exact qrep_get n i v)
  | u :: l, n, k, i, v, h => by
    rw [List.map_cons, lv_args, qcv_cat hX]
    rw [qlo_cons] at h
    cases hw : qw2 u with
    | true =>
      rw [if_pos ((qw2_cat u).mp hw)]
      rw [hw] at h
      simp only [cond_true] at h
      match n, i, h with
      | 0, i, h => simp at h
      | 1, i, h => simp at h
      | n + 2, 0, h =>
        simp at h
        subst h
        exact List.mem_cons_self
      | n + 2, 1, h => simp at h
      | n + 2, i + 2, h =>
        simp at h
        have := qlo_get hX l n (k + 2) i v h
        rw [show k + (i + 2) = k + 2 + i by omega]
        exact List.mem_cons_of_mem _ this
    | false =>
      rw [if_neg (fun z => by rw [(qw2_cat u).mpr z] at hw; cases hw)]
      rw [hw] at h
      simp only [cond_false] at h
      match n, i, h with
      | 0, i, h => simp at h
      | n + 1, 0, h =>
        simp at h
        subst h
        exact List.mem_cons_self
      | n + 1, i + 1, h =>
        simp at h
        have := qlo_get hX l n (k + 1) i v h
        rw [show k + (i + 1) = k + 1 + i by omega]
        exact List.mem_cons_of_mem _ this
theorem qwd_sl {X : Nat → Value} (hX : qXr X) : ∀ l : List Value, (lg_sl (l.map (qcv X))).length = qwd l
  | [] => rfl
  | v :: l => by
    have h1 := qwd_sl hX l
    unfold lg_sl at h1 ⊢
    rw [List.map_cons, List.flatMap_cons, List.length_append, h1, qwd, qcv_cat hX]
    congr 1
    cases hw : qw2 v with
    | true => rw [if_pos ((qw2_cat v).mp hw)]; rfl
    | false => rw [if_neg (fun z => by rw [(qw2_cat v).mpr z] at hw; cases hw)]; rfl
section
variable {ρ : Type} {fin : Nat → Nat → Option Nat} {dp n n' : Nat} {y : MethodName} {bytes : ByteArray} {maxL : Nat} {ret : Option FieldType} {J : ρ → Option (Option Value) × qM} {t : qT ρ}
/-- a body by its class's own code (as the kit's row, by the method's own name where the class's name is not plain) -/
theorem qofW {l : Launch} {y : MethodName} {ws ws' : List Jvm.Cond} {rm : Room} {Pc : Array Value → State → Prop} {Qc : Array Value → State → Outcome → State → Prop} {XC : String → State → State → Prop} {mc ms : Nat} {free : Addr → Prop} {cc : ByteArray} {maxL : Nat} {ret : Option FieldType}
    (hy : plainFor y = true) (hw : ws = Jvm.Cond.code y cc maxL ret :: ws')
    (body : ∀ p e s m args below meth c s₁, BodyLoose p l y (headSpec ws rm) cc maxL ret e s m args below meth c s₁ → c.maxLocals = maxL → (∀ x ∈ c.exceptionTable.toList, False) → Pc args s →
      W p l e (headSpec ws rm).room s m args below meth c s.heap [] 0 0 (vx_MQ below Qc XC args s mc ms free) (entryFrame m args maxL)) : vx_Met l y ws rm Pc Qc XC mc ms free := by
  refine MetFree.of_bodySF (code := cc) (maxLocals := maxL) (ret := ret) hy ?_ ?_
  · intro args s m h hn
    obtain ⟨meth, c, h1, h2, h3, h4, h5, h6, -, -⟩ := Cond.code_spec hn (atoms_spec (ws := ws) h _ (by rw [hw]; exact List.mem_cons_self))
    exact ⟨meth, c, h1, h2, h3, h4, h5, h6⟩
  · intro p e s m args below meth c s₁ B hml hP _
    have hh0 : s₁.heap = s.heap := by rw [B.state]; rfl
    have ht : ∀ x ∈ c.exceptionTable.toList, False := by
      obtain ⟨meth9, c9, h1, h2, -, -, -, -, h7, -⟩ := Cond.code_spec B.named (atoms_spec (ws := ws) B.pre _ (by rw [hw]; exact List.mem_cons_self))
      cases Option.some.inj (h1.symm.trans B.method)
      cases Option.some.inj (h2.symm.trans (Stand.of_body B).code)
      intro x hx
      rw [Array.isEmpty_iff.mp h7] at hx
      cases hx
    obtain ⟨t, a1, o, b1, b2, b3⟩ := body p e s m args below meth c s₁ B hml ht hP s₁ hh0 (Stand.of_body B)
    exact ⟨t, o, a1, b1, b2, b3⟩
/-- a method without handlers, out of its chain -/
theorem qmeet (hy : plainFor y = true) (hnn : n ≤ n') (k : ∀ (C : qCx) (w : qWp), qOk C w y.cls bytes maxL dp n n' → qMt C ret → qNx C → C.2.2.2.2.2.2.2.2.1.name = y.name → qSnd C w maxL n (qQf C w n n' J) fin n 0 t)
    {av : List Value} {m : qM} {r : ρ} (hr : t (qlo av maxL) [] m = some r) (hw : qwd av ≤ maxL) : qMeet y (.code y bytes maxL ret) dp fin av n m (J r).1 n' (J r).2 := by
  refine ⟨hnn, fun l w hW hF => ?_⟩
  refine qofW (cc := bytes) (maxL := maxL) (ret := ret) hy rfl ?_
  intro p e s mi args below meth c s₁ B hml hx hv
  obtain ⟨rfl, hz, hP, hK, hG⟩ := hv
  have hts : ∀ x ∈ qTw, x.before _ s = true := fun x hx => atoms_spec (ws := Jvm.Cond.code y bytes maxL ret :: qTw) B.pre x (List.mem_cons_of_mem _ hx)
  have hnm := (name_of_methodNamed B.named B.method).1
  have hown : s.vm.findClass y.cls = some mi.cls := findClass_of_methodNamed B.named
  rw [lg_entry_eq]
  have hl := lv_entry (av.map (qcv w.2.1)) (n := maxL) (by rw [qwd_sl hW.2]; exact hw)
  have hl2 : qL w.2.1 (qlo av maxL) ((lg_sl (av.map (qcv w.2.1)) ++ List.replicate (maxL - (lg_sl (av.map (qcv w.2.1))).length) Slot.unset).toArray) maxL := by
    refine ⟨⟨hl.1, hl.2.1, fun q hq => hl.2.2 q ?_⟩, qlo_len _ _⟩
    obtain ⟨j, v, h1, h2, h3⟩ := (mem_qlv _ _ _).mp hq
    have := qlo_get hW.2 av maxL 0 j v h2
    rw [Nat.zero_add] at this h1
    rw [show q = (j, qcv w.2.1 v) from Prod.ext h1 h3]
    exact this
  have h0 : n - n = 0 := Nat.sub_self _
  have h9 : qss n - qss n = 0 := Nat.sub_self _
  have hk := k (p, l, e, qRm dp n n', s, mi, (av.map (qcv w.2.1)).toArray, below, meth, c) w ⟨B.exec, B.bytes, hml, hown, hts, hK, hW.1, hW.2, Nat.le_refl _, Nat.le_refl _, Nat.le_refl _, Nat.le_refl _, hz, hG⟩ ⟨B.returns, B.notSynchronized⟩ hx hnm (qlo av maxL) [] m r hr hF s.heap _ [] hP va_S.rf hl2
  rw [h0, h9] at hk
  exact hk
end
