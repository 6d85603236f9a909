/-! ends by a throw, of methods of any answer -/
section
variable {C : qCx} {w : qWp} {own : String} {cc : ByteArray} {nL dp n0 n1 : Nat} {fin : Nat → Nat → Option Nat} {n pc : Nat} {rt : Option FieldType}
theorem zX2 {ρ : Type} {J : ρ → Option (Option Value) × qM} {t : qT ρ} (hJ : ∀ lo m r, t lo [] m = some r → J r = (none, m)) (h : qOk C w own cc nL dp n0 n1) (hm : qMt C rt) (hx : qNx C) (hn0 : n0 ≤ n) : qSnx C w nL n0 (qQf C w n0 n J) fin n pc t := by
  intro lo rest m r hr hF H ls locs q ce a2 a3 a4 g1 g2 g3
  have hj := hJ lo m r hr
  obtain ⟨p, l, e, R, s, mi, args, below, meth, cd⟩ := C
  have hsz := h.2.2.2.2.2.2.2.2.2.2.2.2.1
  intro T hT X
  have hz2 := qsize hsz hn0 (by rw [← hT]; exact X.heapSize) a2 a3
  have hg : vx_W p l e R s mi args below meth cd H locs (n - n0) (qss n - qss n0) (qQf (p, l, e, R, s, mi, args, below, meth, cd) w n0 n J r) (F0 mi pc ls rest) q := by
    unfold qQf
    rw [hj]
    exact vx_out (E := RX12) (fun x hxx => absurd (hx x hxx) not_false) hm.2 g1 g2 g3 (fun t ht hW => ⟨rfl, rfl, qEnd_of ht hz2 a2 a3⟩) (qlocs a3) (Nat.le_refl _) (Nat.le_refl _)
  exact hg T hT X
/-- the Stop is thrown -/
theorem zT2 {ρ : Type} {J : ρ → Option (Option Value) × qM} {t : qT ρ} (hJ : ∀ lo st m r, t lo st m = some r → J r = (none, m) ∧ ∃ s, st = .ref 109 :: s) (h : qOk C w own cc nL dp n0 n1) (hm : qMt C rt) (hx : qNx C) (hn0 : n0 ≤ n) (hn : 109 < n) (hN : n ≤ 1000) (d : decode cc pc = .ok (.athrow, 1)) : qSnd C w nL n0 (qQf C w n0 n J) fin n pc t := by
  intro lo st m r hr hF H ls locs a2 a3 a4
  obtain ⟨hj, st', rfl⟩ := hJ lo st m r hr
  have hX := qX_at (qOk_X h) hn hN
  obtain ⟨p, l, e, R, s, mi, args, below, meth, cd⟩ := C
  have hsz := h.2.2.2.2.2.2.2.2.2.2.2.2.1
  refine qW_size (fun hz => ?_)
  have hz2 := qsize hsz hn0 hz a2 a3
  rw [List.map_cons, hX]
  have he := a2 109 _ (qws_at m hn)
  obtain ⟨r9, k1, ce, k2, k3, k4, -⟩ := he
  have hcl : s.vm.findClass RX12 = some ce.cls := by
    rw [k3]
    exact (h.2.2.2.2.2.1.1 12 (RX12, TX12, 6) rfl).2.1
  refine vx_athrow h.1 h.2.1 d ?_
  unfold qQf
  rw [hj]
  exact vx_out (E := RX12) (fun x hxx => absurd (hx x hxx) not_false) hm.2 k2 k4 hcl (fun t ht hW => ⟨rfl, rfl, qEnd_of ht hz2 a2 a3⟩) (qlocs a3) (Nat.le_refl _) (Nat.le_refl _)
end
