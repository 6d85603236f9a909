/-! calls by their kinds; operations that call -/
/-- the receiver of a call by a virtual method's name -/
def qRc (y : MethodName) (n : Nat) (av : List Value) : Prop := (∃ c av' ci C N, av = .ref c :: av' ∧ c < n ∧ qsh c = (0, ci) ∧ qCk ci C N ∧ C = y.cls) ∨ (∃ j av', av = .ref (10100 + j) :: av' ∧ j < qTxt.length ∧ y.cls = "java/lang/String")
def qRq (vb : Nat) (y : MethodName) (n : Nat) (av : List Value) : Prop := match vb with
  | 0 => True
  | 1 => qRc y n av
  | _ => ∃ c av', av = .ref c :: av' ∧ c < n
/-- the instruction at pc calls y (its code's word is cw) with b arguments -/
def qCallOk (C : qCx) (w : qWp) (nL dp n0 n1 pc b : Nat) (vb : Nat) (y : MethodName) (cw : Jvm.Cond) : Prop :=
  ∀ (dp' n n' : Nat) (m m' : qM) (o : Option (Option Value)) (fin : Nat → Nat → Option Nat) (av : List Value) (H : Heap) (locs : List Loc) (ls : Array Slot) (rest : List Value), dp' + 1 ≤ dp → n0 ≤ n → n' ≤ n1 → n ≤ 1000 → av.length = b → qRq vb y n av → (rest.map fun v => v.category).sum ≤ 8 → ls.size = nL →
    H.size = w.1 + n → va_P (w.2.2.2.1, w.2.2.2.2.1) qCL (qws w n m) H → va_S (qAd w.1) (qSt C).heap H locs → qFo fin w → qMeet y cw dp' fin av n m o n' m' →
    match C with
    | (p, l, e, R, s, mi, args, below, meth, cd) => vx_Run p l e R s mi args below meth cd H locs (n - n0) (qss n - qss n0) (n' - n) (qss n' - qss n) (F0 mi pc ls ((av.map (qcv w.2.1)).reverse ++ rest)) rest (qQc w n' m' o (av.map (qcv w.2.1)).toArray) (qXC w n' m' o) (qAd w.1)
def qYk (y : MethodName) (np : Nat) : Prop := (y.cls ≠ "java/lang/invoke/MethodHandle" ∧ y.cls ≠ "java/lang/invoke/VarHandle") ∧ (parseMethodDescriptor y.desc).map (fun d => d.parameters.length) = some np
theorem qYk_len {y : MethodName} {np k : Nat} (h : qYk y np) (hk : k = np) : ∀ sig, parseMethodDescriptor y.desc = some sig → k = sig.parameters.length := fun sig hs => by
  have h2 := h.2
  rw [hs] at h2
  exact hk.trans (Option.some.inj h2).symm
section
variable {C : qCx} {w : qWp} {own : String} {cc : ByteArray} {nL dp n0 n1 pc : Nat} {y : MethodName} {bytes : ByteArray} {maxL : Nat} {ret : Option FieldType} {ix np : Nat}
theorem qGood {s : State} {args : Array Value} (hts : ∀ x ∈ qTw, x.before args s = true) {cw : Jvm.Cond} (hc : cw ∈ qTw) : ∀ x ∈ cw :: qTw, ∀ (a' : Array Value) (U : State), s.WarmedH U.vm → x.before a' U = true := by
  intro x hx a' U hW
  have hm : x ∈ qTw := by
    rcases List.mem_cons.mp hx with rfl | h
    · exact hc
    · exact h
  exact qTw_word hW hm (hts x hm)
theorem qRc_cell {s : State} {H : Heap} {locs : List Loc} {n : Nat} {m : qM} {av : List Value} (hX : ∀ i, i < 1000 → w.2.1 i = .ref (w.1 + i)) (hN : n ≤ 1000) (hK : va_K (w.2.2.2.1, w.2.2.2.2.1) qCL (qtys w.2.2.1) s) (hG : qGl w s s.heap) (hP : va_P (w.2.2.2.1, w.2.2.2.2.1) qCL (qws w n m) H) (hS : va_S (qAd w.1) s.heap H locs) (h : qRc y n av) :
    ∃ (b : Addr) (av' : List Value) (x : Value), av = x :: av' ∧ qcv w.2.1 x = .ref b ∧ ∃ cellB : Cell, H[b]? = some cellB ∧ cellB.vm.isStatics = false ∧ s.vm.findClass y.cls = some cellB.cls := by
  rcases h with ⟨c, av', ci, Cn, N, rfl, hc, hs, hq, hy⟩ | ⟨j, av', rfl, hj, hy⟩
  · have he := qws_at (w := w) m hc
    rw [hs] at he
    refine ⟨w.1 + c, av', _, rfl, hX c (Nat.lt_of_lt_of_le hc hN), ?_⟩
    obtain ⟨cell, g1, g2, g3⟩ := va_recv hK hP hq.1 he
    exact ⟨cell, g1, g2, by rw [← hy]; exact g3⟩
  · obtain ⟨a, v, k1, k2, -⟩ := hG.2.2.2.2.2.2.2.2.2.2.1 j hj
    obtain ⟨cell, g1, g2, g3, -⟩ := k2.kept hS.2.1
    exact ⟨a, av', _, rfl, k1, cell, g1, g2, by rw [hy]; exact g3⟩
theorem kindV (h : qOk C w own cc nL dp n0 n1) (d : decode cc pc = .ok (.invokevirtual ix, 3)) (hl : Jvm.Cond.methodLink own ix y ∈ qTw) (hi : Jvm.Cond.instanceMethod y ∈ qTw) (hse : Jvm.Cond.selects y.cls y y ∈ qTw) (hin : Jvm.Cond.initialized y.cls ∈ qTw) (hc : Jvm.Cond.code y bytes maxL ret ∈ qTw) (hy : qYk y np) (hm : maxL ≤ 45) :
    qCallOk C w nL dp n0 n1 pc (np + 1) 1 y (.code y bytes maxL ret) := by
  intro dp' n n' m m' o fin av H locs ls rest hd hn0 hn1 hN hav hrc hcat hls hz hP hS hF hM
  obtain ⟨p, l, e, R, s, mi, args, below, meth, cd⟩ := C
  obtain ⟨hx, hb, hml, hown, hts, hK, hX, hXr, hfr, hlo, hce, hsl, hsz, hG⟩ := h
  obtain ⟨hnn, hM2⟩ := hM
  obtain ⟨b, av', x, rfl, hxb, hcell⟩ := qRc_cell hX hN hK hG hP hS hrc
  have hlen : av'.length = np := by simpa using hav
  have h1 := qss_le hn0
  have h2 := qss_le hnn
  have h3 := qss_le hn1
  have hst : ((x :: av').map (qcv w.2.1)).reverse ++ rest = (av'.map (qcv w.2.1)).reverse ++ .ref b :: rest := by simp [hxb]
  have har : ((x :: av').map (qcv w.2.1)) = .ref b :: av'.map (qcv w.2.1) := by simp [hxb]
  rw [hst, har]
  have hPc := qPc_at (av := x :: av') hK hG hz hP hS
  rw [har] at hPc
  refine vx_runV (Ts := qTw) ⟨hx, hb, hml, hown, hts⟩ (hM2 l w ⟨hX, hXr⟩ hF) (n := np) (C := y.cls) ⟨⟨rfl, rfl, ?_, ?_, qGood hts hc, List.mem_cons_self, hts _ hc, hts _ hin, hy.1, qYk_len hy rfl, hts _ hl⟩, hts _ hi, hts _ hse⟩ ⟨qPc_blind _ _ _ _, hcell, hPc⟩ rfl (by rw [List.length_map]; exact hlen) hls rfl (by simpa using hcat) d ⟨by show _ ≤ R.cells; omega, by show _ ≤ R.slots; omega⟩
  · show dp' + 1 ≤ R.frames; omega
  · show 8 + (maxL + 11) + 64 * dp' ≤ R.locals; omega
theorem kindS (h : qOk C w own cc nL dp n0 n1) (d : decode cc pc = .ok (.invokestatic ix, 3)) (hl : Jvm.Cond.methodLink own ix y ∈ qTw) (hi : Jvm.Cond.static y ∈ qTw) (hin : Jvm.Cond.initialized y.cls ∈ qTw) (hc : Jvm.Cond.code y bytes maxL ret ∈ qTw) (hy : qYk y np) (hm : maxL ≤ 45) :
    qCallOk C w nL dp n0 n1 pc np 0 y (.code y bytes maxL ret) := by
  intro dp' n n' m m' o fin av H locs ls rest hd hn0 hn1 hN hav hrc hcat hls hz hP hS hF hM
  obtain ⟨p, l, e, R, s, mi, args, below, meth, cd⟩ := C
  obtain ⟨hx, hb, hml, hown, hts, hK, hX, hXr, hfr, hlo, hce, hsl, hsz, hG⟩ := h
  obtain ⟨hnn, hM2⟩ := hM
  have h1 := qss_le hn0
  have h2 := qss_le hnn
  have h3 := qss_le hn1
  refine vx_runS (Ts := qTw) ⟨hx, hb, hml, hown, hts⟩ (hM2 l w ⟨hX, hXr⟩ hF) (n := np) ⟨⟨rfl, rfl, ?_, ?_, qGood hts hc, List.mem_cons_self, hts _ hc, hts _ hin, hy.1, qYk_len hy rfl, hts _ hl⟩, hts _ hi⟩ ⟨qPc_blind _ _ _ _, qPc_at hK hG hz hP hS⟩ rfl (by rw [List.length_map]; exact hav) hls rfl (by simpa using hcat) d ⟨by show _ ≤ R.cells; omega, by show _ ≤ R.slots; omega⟩
  · show dp' + 1 ≤ R.frames; omega
  · show 8 + (maxL + 11) + 64 * dp' ≤ R.locals; omega
theorem kindSN {host : String} (h : qOk C w own cc nL dp n0 n1) (d : decode cc pc = .ok (.invokestatic ix, 3)) (hl : Jvm.Cond.methodLinkNest own ix y host ∈ qTw) (hi : Jvm.Cond.static y ∈ qTw) (hin : Jvm.Cond.initialized y.cls ∈ qTw) (hc : Jvm.Cond.code y bytes maxL ret ∈ qTw) (hy : qYk y np) (hm : maxL ≤ 45) :
    qCallOk C w nL dp n0 n1 pc np 0 y (.code y bytes maxL ret) := by
  intro dp' n n' m m' o fin av H locs ls rest hd hn0 hn1 hN hav hrc hcat hls hz hP hS hF hM
  obtain ⟨p, l, e, R, s, mi, args, below, meth, cd⟩ := C
  obtain ⟨hx, hb, hml, hown, hts, hK, hX, hXr, hfr, hlo, hce, hsl, hsz, hG⟩ := h
  obtain ⟨hnn, hM2⟩ := hM
  have h1 := qss_le hn0
  have h2 := qss_le hnn
  have h3 := qss_le hn1
  refine vx_runSN (Ts := qTw) ⟨hx, hb, hml, hown, hts⟩ (hM2 l w ⟨hX, hXr⟩ hF) (n := np) (host := host) ⟨⟨⟨rfl, rfl, ?_, ?_, qGood hts hc, List.mem_cons_self⟩, hts _ hc, hts _ hin, hy.1, qYk_len hy rfl, hts _ hl⟩, hts _ hi, trivial⟩ ⟨qPc_blind _ _ _ _, qPc_at hK hG hz hP hS⟩ rfl (by rw [List.length_map]; exact hav) hls rfl (by simpa using hcat) d ⟨by show _ ≤ R.cells; omega, by show _ ≤ R.slots; omega⟩
  · show dp' + 1 ≤ R.frames; omega
  · show 8 + (maxL + 11) + 64 * dp' ≤ R.locals; omega
theorem kindI (h : qOk C w own cc nL dp n0 n1) (d : decode cc pc = .ok (.invokespecial ix, 3)) (hl : Jvm.Cond.methodLink own ix y ∈ qTw) (hi : Jvm.Cond.instanceMethod y ∈ qTw) (hin : Jvm.Cond.initialized y.cls ∈ qTw) (hc : Jvm.Cond.code y bytes maxL none ∈ qTw) (hy : qYk y np) (hm : maxL ≤ 45) (hn : y.name = "<init>") :
    qCallOk C w nL dp n0 n1 pc (np + 1) 2 y (.code y bytes maxL none) := by
  intro dp' n n' m m' o fin av H locs ls rest hd hn0 hn1 hN hav hrc hcat hls hz hP hS hF hM
  obtain ⟨p, l, e, R, s, mi, args, below, meth, cd⟩ := C
  obtain ⟨hx, hb, hml, hown, hts, hK, hX, hXr, hfr, hlo, hce, hsl, hsz, hG⟩ := h
  obtain ⟨hnn, hM2⟩ := hM
  obtain ⟨cc0, av', rfl, hcn⟩ := hrc
  have hxb : qcv w.2.1 (.ref cc0) = .ref (w.1 + cc0) := hX cc0 (Nat.lt_of_lt_of_le hcn hN)
  have hlen : av'.length = np := by simpa using hav
  have h1 := qss_le hn0
  have h2 := qss_le hnn
  have h3 := qss_le hn1
  have hst : ((Value.ref cc0 :: av').map (qcv w.2.1)).reverse ++ rest = (av'.map (qcv w.2.1)).reverse ++ .ref (w.1 + cc0) :: rest := by simp [hxb]
  have har : ((Value.ref cc0 :: av').map (qcv w.2.1)) = .ref (w.1 + cc0) :: av'.map (qcv w.2.1) := by simp [hxb]
  rw [hst, har]
  have hPc := qPc_at (av := Value.ref cc0 :: av') hK hG hz hP hS
  rw [har] at hPc
  refine vx_runI (Ts := qTw) ⟨hx, hb, hml, hown, hts⟩ (hM2 l w ⟨hX, hXr⟩ hF) (n := np) ⟨⟨rfl, rfl, ?_, ?_, qGood hts hc, List.mem_cons_self, hts _ hc, hts _ hin, hy.1, qYk_len hy rfl, hts _ hl⟩, hn, hts _ hi⟩ ⟨qPc_blind _ _ _ _, hPc⟩ rfl (by rw [List.length_map]; exact hlen) hls rfl (by simpa using hcat) d ⟨by show _ ≤ R.cells; omega, by show _ ≤ R.slots; omega⟩
  · show dp' + 1 ≤ R.frames; omega
  · show 8 + (maxL + 11) + 64 * dp' ≤ R.locals; omega
theorem kindIN {host : String} (h : qOk C w own cc nL dp n0 n1) (d : decode cc pc = .ok (.invokespecial ix, 3)) (hl : Jvm.Cond.methodLinkNest own ix y host ∈ qTw) (hi : Jvm.Cond.instanceMethod y ∈ qTw) (hin : Jvm.Cond.initialized y.cls ∈ qTw) (hc : Jvm.Cond.code y bytes maxL none ∈ qTw) (hy : qYk y np) (hm : maxL ≤ 45) (hn : y.name = "<init>") :
    qCallOk C w nL dp n0 n1 pc (np + 1) 2 y (.code y bytes maxL none) := by
  intro dp' n n' m m' o fin av H locs ls rest hd hn0 hn1 hN hav hrc hcat hls hz hP hS hF hM
  obtain ⟨p, l, e, R, s, mi, args, below, meth, cd⟩ := C
  obtain ⟨hx, hb, hml, hown, hts, hK, hX, hXr, hfr, hlo, hce, hsl, hsz, hG⟩ := h
  obtain ⟨hnn, hM2⟩ := hM
  obtain ⟨cc0, av', rfl, hcn⟩ := hrc
  have hxb : qcv w.2.1 (.ref cc0) = .ref (w.1 + cc0) := hX cc0 (Nat.lt_of_lt_of_le hcn hN)
  have hlen : av'.length = np := by simpa using hav
  have h1 := qss_le hn0
  have h2 := qss_le hnn
  have h3 := qss_le hn1
  have hst : ((Value.ref cc0 :: av').map (qcv w.2.1)).reverse ++ rest = (av'.map (qcv w.2.1)).reverse ++ .ref (w.1 + cc0) :: rest := by simp [hxb]
  have har : ((Value.ref cc0 :: av').map (qcv w.2.1)) = .ref (w.1 + cc0) :: av'.map (qcv w.2.1) := by simp [hxb]
  rw [hst, har]
  have hPc := qPc_at (av := Value.ref cc0 :: av') hK hG hz hP hS
  rw [har] at hPc
  refine vx_runIN (Ts := qTw) ⟨hx, hb, hml, hown, hts⟩ (hM2 l w ⟨hX, hXr⟩ hF) (n := np) (host := host) ⟨⟨⟨rfl, rfl, ?_, ?_, qGood hts hc, List.mem_cons_self⟩, hts _ hc, hts _ hin, hy.1, qYk_len hy rfl, hts _ hl⟩, hn, hts _ hi⟩ ⟨qPc_blind _ _ _ _, hPc⟩ rfl (by rw [List.length_map]; exact hlen) hls rfl (by simpa using hcat) d ⟨by show _ ≤ R.cells; omega, by show _ ≤ R.slots; omega⟩
  · show dp' + 1 ≤ R.frames; omega
  · show 8 + (maxL + 11) + 64 * dp' ≤ R.locals; omega
/-- a method with a table of handlers -/
theorem kindH {hh : List (Nat × Nat × Nat × Nat)} (h : qOk C w own cc nL dp n0 n1) (d : decode cc pc = .ok (.invokevirtual ix, 3)) (hl : Jvm.Cond.methodLink own ix y ∈ qTw) (hi : Jvm.Cond.instanceMethod y ∈ qTw) (hse : Jvm.Cond.selects y.cls y y ∈ qTw) (hin : Jvm.Cond.initialized y.cls ∈ qTw) (hc : Jvm.Cond.codeWith y bytes maxL ret hh ∈ qTw) (hy : qYk y np) (hm : maxL ≤ 45) :
    qCallOk C w nL dp n0 n1 pc (np + 1) 1 y (.codeWith y bytes maxL ret hh) := by
  intro dp' n n' m m' o fin av H locs ls rest hd hn0 hn1 hN hav hrc hcat hls hz hP hS hF hM
  obtain ⟨p, l, e, R, s, mi, args, below, meth, cd⟩ := C
  obtain ⟨hx, hb, hml, hown, hts, hK, hX, hXr, hfr, hlo, hce, hsl, hsz, hG⟩ := h
  obtain ⟨hnn, hM2⟩ := hM
  obtain ⟨b, av', x, rfl, hxb, hcell⟩ := qRc_cell hX hN hK hG hP hS hrc
  have hlen : av'.length = np := by simpa using hav
  have h1 := qss_le hn0
  have h2 := qss_le hnn
  have h3 := qss_le hn1
  have hst : ((x :: av').map (qcv w.2.1)).reverse ++ rest = (av'.map (qcv w.2.1)).reverse ++ .ref b :: rest := by simp [hxb]
  have har : ((x :: av').map (qcv w.2.1)) = .ref b :: av'.map (qcv w.2.1) := by simp [hxb]
  rw [hst, har]
  have hPc := qPc_at (av := x :: av') hK hG hz hP hS
  rw [har] at hPc
  refine vx_runVX (Ts := qTw) ⟨hx, hb, hml, hown, hts⟩ (hM2 l w ⟨hX, hXr⟩ hF) (n := np) (C := y.cls) ⟨⟨rfl, rfl, ?_, ?_, qGood hts hc, List.mem_cons_self⟩, hts _ hc, hts _ hin, hy.1, qYk_len hy rfl, hts _ hl, hts _ hi, hts _ hse⟩ ⟨qPc_blind _ _ _ _, hcell, hPc⟩ rfl (by rw [List.length_map]; exact hlen) hls rfl (by simpa using hcat) d ⟨by show _ ≤ R.cells; omega, by show _ ≤ R.slots; omega⟩
  · show dp' + 1 ≤ R.frames; omega
  · show 8 + (maxL + 11) + 64 * dp' ≤ R.locals; omega
end
section
variable {ρ : Type} {C : qCx} {w : qWp} {own : String} {cc : ByteArray} {nL dp n0 n1 : Nat} {Qf : ρ → State → Prop} {fin : Nat → Nat → Option Nat} {n n' pc : Nat} {t : qT ρ} {y : MethodName} {cw : Jvm.Cond} {dp' b vb : Nat}
theorem qtake_some : ∀ (k : Nat) (st acc : List Value) (f : List Value → List Value → Option ρ) (r : ρ), qtake k st acc f = some r → ∃ xs rest, st = xs ++ rest ∧ xs.length = k ∧ f (xs.reverse ++ acc) rest = some r
  | 0, st, acc, f, r, h => ⟨[], st, rfl, rfl, h⟩
  | k + 1, [], acc, f, r, h => by simp [qtake] at h
  | k + 1, v :: st, acc, f, r, h => by
    rw [qtake] at h
    obtain ⟨xs, rest, h1, h2, h3⟩ := qtake_some k st (v :: acc) f r h
    exact ⟨v :: xs, rest, by rw [h1]; rfl, by simp [h2], by simpa using h3⟩
/-- what a function says of a method: it answers a number, a long, nothing, a reference; or may throw -/
def qSpI (y : MethodName) (cw : Jvm.Cond) (dp : Nat) (fin : Nat → Nat → Option Nat) (n n' vb : Nat) (G : qG Int32) : Prop := ∀ av m x m', G av m = some (x, m') → qMeet y cw dp fin av n m (some (some (.int x))) n' m' ∧ qRq vb y n av
def qSpL (y : MethodName) (cw : Jvm.Cond) (dp : Nat) (fin : Nat → Nat → Option Nat) (n n' vb : Nat) (G : qG Int64) : Prop := ∀ av m x m', G av m = some (x, m') → qMeet y cw dp fin av n m (some (some (.long x))) n' m' ∧ qRq vb y n av
def qSpV (y : MethodName) (cw : Jvm.Cond) (dp : Nat) (fin : Nat → Nat → Option Nat) (n n' vb : Nat) (G : qG Unit) : Prop := ∀ av m m', G av m = some ((), m') → qMeet y cw dp fin av n m (some none) n' m' ∧ qRq vb y n av
def qrv (q : Option Nat) : Value := match q with
  | some q => .ref q
  | none => .null
def qSpR (y : MethodName) (cw : Jvm.Cond) (dp : Nat) (fin : Nat → Nat → Option Nat) (n n' vb : Nat) (G : qG (Option Nat)) : Prop := ∀ av m x m', G av m = some (x, m') → qMeet y cw dp fin av n m (some (some (qrv x))) n' m' ∧ qRq vb y n av
def qSpIX (y : MethodName) (cw : Jvm.Cond) (dp : Nat) (fin : Nat → Nat → Option Nat) (n n' vb : Nat) (G : qG (Option Int32)) : Prop := ∀ av m x m', G av m = some (x, m') → qMeet y cw dp fin av n m (x.map fun x => some (.int x)) n' m' ∧ qRq vb y n av
def qSpVX (y : MethodName) (cw : Jvm.Cond) (dp : Nat) (fin : Nat → Nat → Option Nat) (n n' vb : Nat) (G : qG (Option Unit)) : Prop := ∀ av m x m', G av m = some (x, m') → qMeet y cw dp fin av n m (x.map fun _ => none) n' m' ∧ qRq vb y n av
/-- behind a call: one row for all -/
theorem kAll (h : qOk C w own cc nL dp n0 n1) (kd : qCallOk C w nL dp n0 n1 pc b vb y cw) (hd : dp' + 1 ≤ dp) (hn0 : n0 ≤ n) (hn1 : n' ≤ n1) (hN : n ≤ 1000) {m m' : qM} {o : Option (Option Value)} {xs rest : List Value} (hb : xs.length = b) (hcat : qcat rest ≤ 8) (hM : qMeet y cw dp' fin xs.reverse n m o n' m' ∧ qRq vb y n xs.reverse) (hF : qFo fin w)
    {H : Heap} {ls : Array Slot} {locs : List Loc} {Q : State → Prop} {lo : qLo} (a2 : va_P (w.2.2.2.1, w.2.2.2.2.1) qCL (qws w n m) H) (a3 : va_S (qAd w.1) (qSt C).heap H locs) (a4 : qL w.2.1 lo ls nL)
    (kk : ∀ (v : Option Value) (H1 : Heap) (locs1 : List Loc), o = some v → va_P (w.2.2.2.1, w.2.2.2.2.1) qCL (qws w n' m') H1 → va_S (qAd w.1) (qSt C).heap H1 locs1 → qWj C H1 locs1 (n' - n0) (qss n' - qss n0) Q (F0 (qMe C) (pc + 3) ls ((v.toList ++ rest).map (qcv w.2.1))))
    (kx : ∀ (H1 : Heap) (locs1 : List Loc) (q : Addr) (ce : Cell), o = none → va_P (w.2.2.2.1, w.2.2.2.2.1) qCL (qws w n' m') H1 → va_S (qAd w.1) (qSt C).heap H1 locs1 → H1[q]? = some ce → ce.vm = .none → (qSt C).vm.findClass RX12 = some ce.cls → match C with
      | (p, l, e, R, s, mi, args, below, meth, cd) => vx_W p l e R s mi args below meth cd H1 locs1 (n' - n0) (qss n' - qss n0) Q (F0 mi pc ls (rest.map (qcv w.2.1))) q) :
    qWj C H locs (n - n0) (qss n - qss n0) Q (F0 (qMe C) pc ls ((xs ++ rest).map (qcv w.2.1))) := by
  have hXr := qOk_Xr h
  obtain ⟨p, l, e, R, s, mi, args, below, meth, cd⟩ := C
  have hsz := h.2.2.2.2.2.2.2.2.2.2.2.2.1
  refine qW_size (fun hz => ?_)
  have hz2 := qsize hsz hn0 hz a2 a3
  have hr := kd dp' n n' m m' o fin xs.reverse H locs ls (rest.map (qcv w.2.1)) hd hn0 hn1 hN (by rw [List.length_reverse]; exact hb) hM.2 (by rw [qcv_cats hXr]; exact hcat) a4.1.1 hz2 a2 a3 hF hM.1
  have hst : (xs ++ rest).map (qcv w.2.1) = ((xs.reverse.map (qcv w.2.1)).reverse ++ rest.map (qcv w.2.1)) := by simp
  rw [hst]
  refine qUse hn0 hM.1.1 hr a3 (fun v H1 locs1 ho b1 b2 => ?_) kx
  have := kk v H1 locs1 ho b1 b2
  rw [List.map_append] at this
  cases v <;> exact this
theorem kCi {G : qG Int32} (h : qOk C w own cc nL dp n0 n1) (kd : qCallOk C w nL dp n0 n1 pc b vb y cw) (sp : qSpI y cw dp' fin n n' vb G) (hd : dp' + 1 ≤ dp) (hn0 : n0 ≤ n) (hn1 : n' ≤ n1) (hN : n ≤ 1000) (k : qSnd C w nL n0 Qf fin n' (pc + 3) t) : qSnd C w nL n0 Qf fin n pc (oCi G b t) := by
  intro lo st m r hr hF H ls locs a2 a3 a4
  obtain ⟨xs, rest, rfl, hb, h1⟩ := qtake_some _ _ _ _ _ hr
  rw [List.append_nil] at h1
  obtain ⟨hcat, h2⟩ := qble h1
  unfold qbI at h2
  split at h2
  · rename_i x m' hG
    have hM := sp _ _ _ _ hG
    refine kAll h kd hd hn0 hn1 hN hb hcat hM hF a2 a3 a4 (fun v H1 locs1 ho b1 b2 => ?_) (fun _ _ _ _ ho => by cases ho)
    cases ho
    exact k lo _ m' r h2 hF H1 ls locs1 b1 b2 a4
  · cases h2
theorem kCl {G : qG Int64} (h : qOk C w own cc nL dp n0 n1) (kd : qCallOk C w nL dp n0 n1 pc b vb y cw) (sp : qSpL y cw dp' fin n n' vb G) (hd : dp' + 1 ≤ dp) (hn0 : n0 ≤ n) (hn1 : n' ≤ n1) (hN : n ≤ 1000) (k : qSnd C w nL n0 Qf fin n' (pc + 3) t) : qSnd C w nL n0 Qf fin n pc (oCl G b t) := by
  intro lo st m r hr hF H ls locs a2 a3 a4
  obtain ⟨xs, rest, rfl, hb, h1⟩ := qtake_some _ _ _ _ _ hr
  rw [List.append_nil] at h1
  obtain ⟨hcat, h2⟩ := qble h1
  unfold qbL at h2
  split at h2
  · rename_i x m' hG
    have hM := sp _ _ _ _ hG
    refine kAll h kd hd hn0 hn1 hN hb hcat hM hF a2 a3 a4 (fun v H1 locs1 ho b1 b2 => ?_) (fun _ _ _ _ ho => by cases ho)
    cases ho
    exact k lo _ m' r h2 hF H1 ls locs1 b1 b2 a4
  · cases h2
theorem kCv {G : qG Unit} (h : qOk C w own cc nL dp n0 n1) (kd : qCallOk C w nL dp n0 n1 pc b vb y cw) (sp : qSpV y cw dp' fin n n' vb G) (hd : dp' + 1 ≤ dp) (hn0 : n0 ≤ n) (hn1 : n' ≤ n1) (hN : n ≤ 1000) (k : qSnd C w nL n0 Qf fin n' (pc + 3) t) : qSnd C w nL n0 Qf fin n pc (oCv G b t) := by
  intro lo st m r hr hF H ls locs a2 a3 a4
  obtain ⟨xs, rest, rfl, hb, h1⟩ := qtake_some _ _ _ _ _ hr
  rw [List.append_nil] at h1
  obtain ⟨hcat, h2⟩ := qble h1
  unfold qbV at h2
  split at h2
  · rename_i x m' hG
    have hM := sp _ _ _ hG
    refine kAll h kd hd hn0 hn1 hN hb hcat hM hF a2 a3 a4 (fun v H1 locs1 ho b1 b2 => ?_) (fun _ _ _ _ ho => by cases ho)
    cases ho
    exact k lo _ m' r h2 hF H1 ls locs1 b1 b2 a4
  · cases h2
theorem kCr {G : qG (Option Nat)} (h : qOk C w own cc nL dp n0 n1) (kd : qCallOk C w nL dp n0 n1 pc b vb y cw) (sp : qSpR y cw dp' fin n n' vb G) (hd : dp' + 1 ≤ dp) (hn0 : n0 ≤ n) (hn1 : n' ≤ n1) (hN : n ≤ 1000) (k : qSnd C w nL n0 Qf fin n' (pc + 3) t) : qSnd C w nL n0 Qf fin n pc (oCr G b t) := by
  intro lo st m r hr hF H ls locs a2 a3 a4
  obtain ⟨xs, rest, rfl, hb, h1⟩ := qtake_some _ _ _ _ _ hr
  rw [List.append_nil] at h1
  obtain ⟨hcat, h2⟩ := qble h1
  unfold qbR at h2
  split at h2
  · rename_i x m' hG
    have hM := sp _ _ _ _ hG
    refine kAll h kd hd hn0 hn1 hN hb hcat hM hF a2 a3 a4 (fun v H1 locs1 ho b1 b2 => ?_) (fun _ _ _ _ ho => by cases ho)
    cases ho
    exact k lo _ m' r h2 hF H1 ls locs1 b1 b2 a4
  · rename_i m' hG
    have hM := sp _ _ _ _ hG
    refine kAll h kd hd hn0 hn1 hN hb hcat hM hF a2 a3 a4 (fun v H1 locs1 ho b1 b2 => ?_) (fun _ _ _ _ ho => by cases ho)
    cases ho
    exact k lo _ m' r h2 hF H1 ls locs1 b1 b2 a4
  · cases h2
/-- what goes on where a callee has thrown, at pc -/
def qSnx {ρ : Type} (C : qCx) (w : qWp) (nL n0 : Nat) (Qf : ρ → State → Prop) (fin : Nat → Nat → Option Nat) (n pc : Nat) (t : qT ρ) : Prop :=
  ∀ (lo : qLo) (rest : List Value) (m : qM) (r : ρ), t lo [] m = some r → qFo fin w → ∀ (H : Heap) (ls : Array Slot) (locs : List Loc) (q : Addr) (ce : Cell), va_P (w.2.2.2.1, w.2.2.2.2.1) qCL (qws w n m) H → va_S (qAd w.1) (qSt C).heap H locs → qL w.2.1 lo ls nL → H[q]? = some ce → ce.vm = .none → (qSt C).vm.findClass RX12 = some ce.cls →
    match C with
    | (p, l, e, R, s, mi, args, below, meth, cd) => vx_W p l e R s mi args below meth cd H locs (n - n0) (qss n - qss n0) (Qf r) (F0 mi pc ls rest) q
theorem kCiX {G : qG (Option Int32)} {x : qT ρ} (h : qOk C w own cc nL dp n0 n1) (kd : qCallOk C w nL dp n0 n1 pc b vb y cw) (sp : qSpIX y cw dp' fin n n' vb G) (hd : dp' + 1 ≤ dp) (hn0 : n0 ≤ n) (hn1 : n' ≤ n1) (hN : n ≤ 1000) (k : qSnd C w nL n0 Qf fin n' (pc + 3) t) (kx : qSnx C w nL n0 Qf fin n' pc x) : qSnd C w nL n0 Qf fin n pc (oCiX G b t x) := by
  intro lo st m r hr hF H ls locs a2 a3 a4
  obtain ⟨xs, rest, rfl, hb, h1⟩ := qtake_some _ _ _ _ _ hr
  rw [List.append_nil] at h1
  obtain ⟨hcat, h2⟩ := qble h1
  unfold qbIX at h2
  split at h2
  · rename_i v m' hG
    have hM := sp _ _ _ _ hG
    refine kAll h kd hd hn0 hn1 hN hb hcat hM hF a2 a3 a4 (fun v H1 locs1 ho b1 b2 => ?_) (fun _ _ _ _ ho => by cases ho)
    cases ho
    exact k lo _ m' r h2 hF H1 ls locs1 b1 b2 a4
  · rename_i m' hG
    have hM := sp _ _ _ _ hG
    refine kAll h kd hd hn0 hn1 hN hb hcat hM hF a2 a3 a4 (fun v H1 locs1 ho b1 b2 => by cases ho) (fun H1 locs1 q ce ho b1 b2 b3 b4 b5 => ?_)
    exact kx lo _ m' r h2 hF H1 ls locs1 q ce b1 b2 a4 b3 b4 b5
  · cases h2
theorem kCvX {G : qG (Option Unit)} {x : qT ρ} (h : qOk C w own cc nL dp n0 n1) (kd : qCallOk C w nL dp n0 n1 pc b vb y cw) (sp : qSpVX y cw dp' fin n n' vb G) (hd : dp' + 1 ≤ dp) (hn0 : n0 ≤ n) (hn1 : n' ≤ n1) (hN : n ≤ 1000) (k : qSnd C w nL n0 Qf fin n' (pc + 3) t) (kx : qSnx C w nL n0 Qf fin n' pc x) : qSnd C w nL n0 Qf fin n pc (oCvX G b t x) := by
  intro lo st m r hr hF H ls locs a2 a3 a4
  obtain ⟨xs, rest, rfl, hb, h1⟩ := qtake_some _ _ _ _ _ hr
  rw [List.append_nil] at h1
  obtain ⟨hcat, h2⟩ := qble h1
  unfold qbVX at h2
  split at h2
  · rename_i v m' hG
    have hM := sp _ _ _ _ hG
    refine kAll h kd hd hn0 hn1 hN hb hcat hM hF a2 a3 a4 (fun v H1 locs1 ho b1 b2 => ?_) (fun _ _ _ _ ho => by cases ho)
    cases ho
    exact k lo _ m' r h2 hF H1 ls locs1 b1 b2 a4
  · rename_i m' hG
    have hM := sp _ _ _ _ hG
    refine kAll h kd hd hn0 hn1 hN hb hcat hM hF a2 a3 a4 (fun v H1 locs1 ho b1 b2 => by cases ho) (fun H1 locs1 q ce ho b1 b2 b3 b4 b5 => ?_)
    exact kx lo _ m' r h2 hF H1 ls locs1 q ce b1 b2 a4 b3 b4 b5
  · cases h2
end
