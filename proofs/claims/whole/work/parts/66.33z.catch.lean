/-! a handler of the kind that catches its own class: that a class takes itself needs no word -/
theorem asg_self (vm : Vm) (c : ClassId) : vm.assignable c c = true := by
  unfold Vm.assignable
  show Vm.assignableAux vm (255 + 1) c c = true
  unfold Vm.assignableAux
  simp
theorem cast_self {cls : String} {c : ClassId} {args : Array Value} {s : State} (h : s.vm.findClass cls = some c) : (Jvm.Cond.castable cls cls).before args s = true := by
  show (Jvm.Cond.castable cls cls).holds args s none s [] = true
  simp only [Cond.holds, Cond.value, h, asg_self]
  rfl
section
variable {ρ : Type} {C : qCx} {w : qWp} {own : String} {cc : ByteArray} {nL dp n0 n1 : Nat} {Qf : ρ → State → Prop} {fin : Nat → Nat → Option Nat} {n pc : Nat} {t : qT ρ}
theorem hcatch2 {i : Fin 4} {j a b hp ct : Nat} (h : qOk C w own cc nL dp n0 n1) (ht : qTh C [(a, b, hp, ct)]) (hc : ∀ x, tableOf [(a, b, hp, ct)] = [x] → covers x pc = true ∧ x.handlerPc = hp ∧ x.catchType = ct) (h1 : ∃ x, tableOf [(a, b, hp, ct)] = [x]) (h0 : ct ≠ 0) (hl : Jvm.Cond.classLink own ct RX12 ∈ qTw) (d : decode cc hp = .ok (.astore_n i, 1)) (hj : (i : Nat) = j) (k : qSnd C w nL n0 Qf fin n (hp + 1) t) : qSnx C w nL n0 Qf fin n pc (oKill j t) := by
  intro lo rest m r hr hF H ls locs q ce a2 a3 a4 g1 g2 g3
  have hX := qOk_Xr h
  obtain ⟨x, hx1⟩ := h1
  obtain ⟨c1, c2, c3⟩ := hc x hx1
  obtain ⟨h2, h3⟩ := qst_some hr
  obtain ⟨h4, h5⟩ := qput1_eq h3
  rw [qsetK_eq] at h4
  obtain ⟨p, l, e, R, s, mi, args, below, meth, c⟩ := C
  obtain ⟨hx, hb, -, hown, hts, -⟩ := h
  refine vx_catch (E := RX12) (name := RX12) hown [] x [] (by rw [List.nil_append, ← hx1]; exact ht) (fun z hz => by cases hz) c1 (by rw [c3]; exact h0) (by rw [c3]; exact hts _ hl) (cast_self g3) g1 g2 g3 ?_
  rw [c2]
  exact lv_astore_n hx hb d hj a4.1 (Nat.lt_of_lt_of_le h2 a4.2) rfl fun ls' hl' => k _ [] m r h4 hF H ls' locs a2 a3 (qL_putk hX h5 a4 hl')
end
