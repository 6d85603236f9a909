/-! the law's own operation: the script's length -/
section
variable {ρ : Type} {C : qCx} {w : qWp} {own : String} {cc : ByteArray} {nL dp n0 n1 : Nat} {Qf : ρ → State → Prop} {fin : Nat → Nat → Option Nat} {n pc : Nat} {t : qT ρ}
noncomputable def oAxl (c : Nat) (L : Nat) (t : qT ρ) : qT ρ := fun lo st m => match st with
  | .ref r :: s => bif Nat.beq r c then t lo (.int (Int32.ofNat L) :: s) m else none
  | _ => none
theorem rAxl {c k : Nat} {f : Nat → Int32} (hT : ∃ a, w.2.1 c = .ref a ∧ va_T .int a k (fun i => .int (f i)) (qAd w.1) (qSt C) (qSt C).heap) (h : qOk C w own cc nL dp n0 n1) (d : decode cc pc = .ok (.arraylength, 1)) (kk : qSnd C w nL n0 Qf fin n (pc + 1) t) : qSnd C w nL n0 Qf fin n pc (oAxl c k t) := by
  intro lo st mm r hr hF H ls locs a2 a3 a4
  unfold oAxl at hr
  split at hr
  · rename_i r1 s1
    obtain ⟨rfl, h1⟩ := qbeq hr
    obtain ⟨a, hX, hT⟩ := hT
    obtain ⟨p, l, e, R, s, m, args, below, meth, cd⟩ := C
    obtain ⟨hx, hb, -⟩ := h
    rw [List.map_cons, show qcv w.2.1 (.ref r1) = .ref a from hX]
    exact va_tlen hx hb hT a3 rfl d (kk lo _ mm r h1 hF H ls locs a2 a3 a4)
  · cases hr
end
