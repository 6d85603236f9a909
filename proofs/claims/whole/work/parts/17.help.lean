/-! chains and functions; handlers; references into locals -/
/-- a value of one local is forgotten, whatever was put there -/
theorem qL_putk {X : Nat → Value} (hX : qXr X) {lo : qLo} {ls ls' : Array Slot} {nL n : Nat} {v x : Value} (hd : qnd lo n) (hq : qL X lo ls nL) (h : lv_has ls' nL ((n, x) :: (qlv X 0 lo).filter (fun q => !(q.1 == n) && !(q.1 + 1 == n && q.2.category == 2)))) : qL X ((qpd1 lo n v).set n none) ls' nL := by
  refine ⟨⟨h.1, h.2.1, fun q hq => h.2.2 q ?_⟩, by rw [List.length_set, qpd1_len]; exact hq.2⟩
  obtain ⟨j, w, h1, h2, h3⟩ := (mem_qlv _ _ _).mp hq
  rw [Nat.zero_add] at h1
  rw [List.getElem?_set] at h2
  split at h2
  · split at h2 <;> simp at h2
  · rename_i hne
    rcases qpd1_get hd h2 with ⟨rfl, rfl⟩ | ⟨h4, h5, h6⟩
    · exact absurd rfl hne
    · refine List.mem_cons_of_mem _ (List.mem_filter.mpr ⟨(mem_qlv _ _ _).mpr ⟨j, w, by omega, h5, h3⟩, ?_⟩)
      rw [h3, qcv_cat hX, h1]
      simp only [Bool.and_eq_true, Bool.not_eq_true', beq_eq_false_iff_ne, ne_eq, Bool.and_eq_false_iff]
      refine ⟨h4, ?_⟩
      by_cases e : j + 1 = n
      · exact Or.inr fun z => h6 ⟨e, z⟩
      · exact Or.inl e
def qsub : qLo → qLo → Prop
  | [], [] => True
  | a :: l, b :: k => (a = none ∨ a = b) ∧ qsub l k
  | _, _ => False
theorem qsub_len : ∀ {a b : qLo}, qsub a b → a.length = b.length
  | [], [], _ => rfl
  | [], _ :: _, h => h.elim
  | _ :: _, [], h => h.elim
  | _ :: l, _ :: k, h => by rw [List.length_cons, List.length_cons, qsub_len h.2]
theorem qsub_get : ∀ {a b : qLo}, qsub a b → ∀ (i : Nat) (v : Value), a[i]? = some (some v) → b[i]? = some (some v)
  | [], [], _, i, v, h => by simp at h
  | [], _ :: _, h, _, _, _ => h.elim
  | _ :: _, [], h, _, _, _ => h.elim
  | a :: l, b :: k, h, 0, v, hv => by
    simp at hv
    subst hv
    rcases h.1 with e | e
    · cases e
    · subst e; rfl
  | a :: l, b :: k, h, i + 1, v, hv => by
    simp at hv
    simpa using qsub_get h.2 i v hv
theorem qL_sub {X : Nat → Value} {lo lo' : qLo} {ls : Array Slot} {nL : Nat} (hs : qsub lo' lo) (h : qL X lo ls nL) : qL X lo' ls nL := by
  refine ⟨⟨h.1.1, h.1.2.1, fun q hq => h.1.2.2 q ?_⟩, by rw [qsub_len hs]; exact h.2⟩
  obtain ⟨j, v, h1, h2, h3⟩ := (mem_qlv _ _ _).mp hq
  exact (mem_qlv _ _ _).mpr ⟨j, v, h1, qsub_get hs j v h2, h3⟩
section
variable {ρ : Type} {C : qCx} {w : qWp} {own : String} {cc : ByteArray} {nL dp n0 n1 : Nat} {Qf : ρ → State → Prop} {fin : Nat → Nat → Option Nat} {n pc : Nat} {t u : qT ρ}
theorem qSnd_no : qSnd C w nL n0 Qf fin n pc (fun _ _ _ => none) := fun _ _ _ _ h => by cases h
theorem qSnd_of0 (hh : ∀ lo st m x, u lo st m = some x → False) : qSnd C w nL n0 Qf fin n pc u := fun lo st m x h => (hh lo st m x h).elim
theorem qSnd_of (hh : ∀ lo st m x, u lo st m = some x → ∃ lo', qsub lo' lo ∧ t lo' st m = some x) (k : qSnd C w nL n0 Qf fin n pc t) : qSnd C w nL n0 Qf fin n pc u := by
  intro lo st m r hr hF H ls locs a2 a3 a4
  obtain ⟨lo', h1, h2⟩ := hh lo st m r hr
  exact k lo' st m r h2 hF H ls locs a2 a3 (qL_sub h1 a4)
theorem cSa {i : Fin 4} {j : Nat} (h : qOk C w own cc nL dp n0 n1) (d : decode cc pc = .ok (.astore_n i, 1)) (hj : (i : Nat) = j) (k : qSnd C w nL n0 Qf fin n (pc + 1) t) : qSnd C w nL n0 Qf fin n pc (oSa j t) := by
  have hX := qOk_Xr h
  obtain ⟨p, l, e, R, s, m, args, below, meth, c⟩ := C
  obtain ⟨hx, hb, -⟩ := h
  intro lo st mm r hr hF H ls locs a2 a3 a4
  obtain ⟨v, t', hv, rfl, h1⟩ := qA_some hr
  obtain ⟨h2, h3⟩ := qst_some h1
  obtain ⟨h4, h5⟩ := qput1_eq h3
  have hlt := Nat.lt_of_lt_of_le h2 a4.2
  have kk : ∀ ls' : Array Slot, lv_has ls' nL ((j, qcv w.2.1 v) :: (qlv w.2.1 0 lo).filter (fun q => !(q.1 == j) && !(q.1 + 1 == j && q.2.category == 2))) → W p l e R s m args below meth c H locs (n - n0) (qss n - qss n0) (Qf r) (F0 m (pc + 1) ls' (t'.map (qcv w.2.1))) := fun ls' hl' => k _ _ mm r h4 hF H ls' locs a2 a3 (qL_put1 hX h5 a4 hl')
  show W p l e R s m args below meth c H locs (n - n0) (qss n - qss n0) (Qf r) (F0 m pc ls (qcv w.2.1 v :: t'.map (qcv w.2.1)))
  rcases hv with rfl | ⟨x, rfl⟩
  · exact lv_astore_nN hx hb d hj a4.1 hlt rfl kk
  · simp only [qcv] at kk ⊢
    rcases hX x with e1 | ⟨a, e1⟩
    · rw [e1] at kk ⊢
      exact lv_astore_nN hx hb d hj a4.1 hlt rfl kk
    · rw [e1] at kk ⊢
      exact lv_astore_n hx hb d hj a4.1 hlt rfl kk
theorem cSA {j : Nat} (h : qOk C w own cc nL dp n0 n1) (d : decode cc pc = .ok (.astore j, 2)) (k : qSnd C w nL n0 Qf fin n (pc + 2) t) : qSnd C w nL n0 Qf fin n pc (oSa j t) := by
  have hX := qOk_Xr h
  obtain ⟨p, l, e, R, s, m, args, below, meth, c⟩ := C
  obtain ⟨hx, hb, -⟩ := h
  intro lo st mm r hr hF H ls locs a2 a3 a4
  obtain ⟨v, t', hv, rfl, h1⟩ := qA_some hr
  obtain ⟨h2, h3⟩ := qst_some h1
  obtain ⟨h4, h5⟩ := qput1_eq h3
  have hlt := Nat.lt_of_lt_of_le h2 a4.2
  have kk : ∀ ls' : Array Slot, lv_has ls' nL ((j, qcv w.2.1 v) :: (qlv w.2.1 0 lo).filter (fun q => !(q.1 == j) && !(q.1 + 1 == j && q.2.category == 2))) → W p l e R s m args below meth c H locs (n - n0) (qss n - qss n0) (Qf r) (F0 m (pc + 2) ls' (t'.map (qcv w.2.1))) := fun ls' hl' => k _ _ mm r h4 hF H ls' locs a2 a3 (qL_put1 hX h5 a4 hl')
  show W p l e R s m args below meth c H locs (n - n0) (qss n - qss n0) (Qf r) (F0 m pc ls (qcv w.2.1 v :: t'.map (qcv w.2.1)))
  rcases hv with rfl | ⟨x, rfl⟩
  · exact lv_astoreN hx hb d a4.1 hlt rfl kk
  · simp only [qcv] at kk ⊢
    rcases hX x with e1 | ⟨a, e1⟩
    · rw [e1] at kk ⊢
      exact lv_astoreN hx hb d a4.1 hlt rfl kk
    · rw [e1] at kk ⊢
      exact lv_astore hx hb d a4.1 hlt rfl kk
/-- the caught one goes into the local j, and is never looked at -/
noncomputable def oKill (j : Nat) (t : qT ρ) : qT ρ := fun lo _ m => qst lo j (qput1 lo j (.int 0) fun lo' => qsetK lo' j none fun lo2 => t lo2 [] m)
def qTh (C : qCx) (hh : List (Nat × Nat × Nat × Nat)) : Prop := C.2.2.2.2.2.2.2.2.2.exceptionTable.toList = tableOf hh
theorem hcatch {i : Fin 4} {j a b hp ct : Nat} (h : qOk C w own cc nL dp n0 n1) (ht : qTh C [(a, b, hp, ct)]) (hc : ∀ x, tableOf [(a, b, hp, ct)] = [x] → covers x pc = true ∧ x.handlerPc = hp ∧ x.catchType = ct) (h1 : ∃ x, tableOf [(a, b, hp, ct)] = [x]) (h0 : ct ≠ 0) (hl : Jvm.Cond.classLink own ct RX12 ∈ qTw) (hk : Jvm.Cond.castable RX12 RX12 ∈ qTw) (d : decode cc hp = .ok (.astore_n i, 1)) (hj : (i : Nat) = j) (k : qSnd C w nL n0 Qf fin n (hp + 1) t) : qSnx C w nL n0 Qf fin n pc (oKill j t) := by
  intro lo rest m r hr hF H ls locs q ce a2 a3 a4 g1 g2 g3
  have hX := qOk_Xr h
  obtain ⟨x, hx1⟩ := h1
  obtain ⟨c1, c2, c3⟩ := hc x hx1
  obtain ⟨h2, h3⟩ := qst_some hr
  obtain ⟨h4, h5⟩ := qput1_eq h3
  rw [qsetK_eq] at h4
  obtain ⟨p, l, e, R, s, mi, args, below, meth, c⟩ := C
  obtain ⟨hx, hb, -, hown, hts, -⟩ := h
  refine vx_catch (E := RX12) (name := RX12) hown [] x [] (by rw [List.nil_append, ← hx1]; exact ht) (fun z hz => by cases hz) c1 (by rw [c3]; exact h0) (by rw [c3]; exact hts _ hl) (hts _ hk) g1 g2 g3 ?_
  rw [c2]
  exact lv_astore_n hx hb d hj a4.1 (Nat.lt_of_lt_of_le h2 a4.2) rfl fun ls' hl' => k _ [] m r h4 hF H ls' locs a2 a3 (qL_putk hX h5 a4 hl')
end
theorem qpol_cases {r : Nat} (h : qpol r = true) : r = 9 ∨ r = 19 ∨ r = 26 ∨ r = 33 ∨ r = 40 := by
  simp only [qpol, Bool.or_eq_true, beq_iff_eq] at h
  rcases h with (((h | h) | h) | h) | h
  · exact Or.inl h
  · exact Or.inr (Or.inl h)
  · exact Or.inr (Or.inr (Or.inl h))
  · exact Or.inr (Or.inr (Or.inr (Or.inl h)))
  · exact Or.inr (Or.inr (Or.inr (Or.inr h)))
theorem qpol_155 : ∀ q, qpol q = true → q < 155 ∧ qsh q = (0, 5) := by
  intro q h
  rcases qpol_cases h with rfl | rfl | rfl | rfl | rfl <;> exact ⟨by decide, rfl⟩
theorem qpol_1000 : ∀ q, qpol q = true → q < 1000 := fun q h => Nat.lt_trans (qpol_155 q h).1 (by decide)
theorem qRc_pol {y : MethodName} {r : Nat} {av : List Value} (h : qpol r = true) (hy : RX5 = y.cls) : qRc y 155 (.ref r :: av) := Or.inl ⟨r, av, 5, _, _, rfl, (qpol_155 r h).1, (qpol_155 r h).2, qCk_5, hy⟩
section
variable {ρ : Type} {fin : Nat → Nat → Option Nat} {dp n n' : Nat} {y : MethodName} {bytes : ByteArray} {maxL : Nat} {ret : Option FieldType} {J : ρ → Option (Option Value) × qM} {t : qT ρ} {hh : List (Nat × Nat × Nat × Nat)}
/-- a method with handlers, out of its chain -/
theorem qmeetH (hy : plainName y.cls = true) (hnn : n ≤ n') (k : ∀ (C : qCx) (w : qWp), qOk C w y.cls bytes maxL dp n n' → qMt C ret → qTh C hh → C.2.2.2.2.2.2.2.2.1.name = y.name → qSnd C w maxL n (qQf C w n n' J) fin n 0 t)
    {av : List Value} {m : qM} {r : ρ} (hr : t (qlo av maxL) [] m = some r) (hw : qwd av ≤ maxL) : qMeet y (.codeWith y bytes maxL ret hh) dp fin av n m (J r).1 n' (J r).2 := by
  refine ⟨hnn, fun l w hW hF => ?_⟩
  refine vx_ofWH (cc := bytes) (maxL := maxL) (ret := ret) (hh := hh) hy rfl ?_
  intro p e s mi args below meth c s₁ B hml hv
  obtain ⟨rfl, hz, hP, hK, hG⟩ := hv
  have hpre := atoms_spec (ws := Jvm.Cond.codeWith y bytes maxL ret hh :: qTw) B.pre
  have hts : ∀ x ∈ qTw, x.before _ s = true := fun x hx => hpre x (List.mem_cons_of_mem _ hx)
  have htb := vx_table (x := y) B (hpre _ List.mem_cons_self)
  have hnm := (name_of_methodNamed B.named B.method).1
  have hown : s.vm.findClass y.cls = some mi.cls := findClass_of_methodNamed B.named
  rw [lg_entry_eq]
  have hl := lv_entry (av.map (qcv w.2.1)) (n := maxL) (by rw [qwd_sl hW.2]; exact hw)
  have hl2 : qL w.2.1 (qlo av maxL) ((lg_sl (av.map (qcv w.2.1)) ++ List.replicate (maxL - (lg_sl (av.map (qcv w.2.1))).length) Slot.unset).toArray) maxL := by
    refine ⟨⟨hl.1, hl.2.1, fun q hq => hl.2.2 q ?_⟩, qlo_len _ _⟩
    obtain ⟨j, v, h1, h2, h3⟩ := (mem_qlv _ _ _).mp hq
    have := qlo_get hW.2 av maxL 0 j v h2
    rw [Nat.zero_add] at this h1
    rw [show q = (j, qcv w.2.1 v) from Prod.ext h1 h3]
    exact this
  have h0 : n - n = 0 := Nat.sub_self _
  have h9 : qss n - qss n = 0 := Nat.sub_self _
  have hk := k (p, l, e, qRm dp n n', s, mi, (av.map (qcv w.2.1)).toArray, below, meth, c) w ⟨B.exec, B.bytes, hml, hown, hts, hK, hW.1, hW.2, Nat.le_refl _, Nat.le_refl _, Nat.le_refl _, Nat.le_refl _, hz, hG⟩ ⟨B.returns, B.notSynchronized⟩ htb hnm (qlo av maxL) [] m r hr hF s.heap _ [] hP va_S.rf hl2
  rw [h0, h9] at hk
  exact hk
end
theorem qsub_nil : qsub [] [] := trivial
theorem qsub_n {b : Option Value} {l k : qLo} (h : qsub l k) : qsub (none :: l) (b :: k) := ⟨Or.inl rfl, h⟩
theorem qsub_e {b : Option Value} {l k : qLo} (h : qsub l k) : qsub (b :: l) (b :: k) := ⟨Or.inr rfl, h⟩
/-! how many turns of a loop are told of; how deep a method calls itself -/
theorem FU_x : ∃ n : Nat, n = 10000 := ⟨_, rfl⟩
noncomputable def FU : Nat := Classical.choose FU_x
theorem FU_d : FU = 10000 := Classical.choose_spec FU_x
theorem FG_x : ∃ n : Nat, n = 8 := ⟨_, rfl⟩
noncomputable def FG : Nat := Classical.choose FG_x
theorem FG_d : FG = 8 := Classical.choose_spec FG_x
