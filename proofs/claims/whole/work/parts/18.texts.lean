/-! texts: operations of String's own code -/
def qtx (q : Nat) : Bool := Nat.ble 10100 q && Nat.blt q 10127
def qtv (q : Nat) : Bool := Nat.ble 10200 q && Nat.blt q 10227
theorem qtx_d {q : Nat} (h : qtx q = true) : ∃ j, j < qTxt.length ∧ q = 10100 + j := by
  simp only [qtx, Bool.and_eq_true, Nat.blt_eq, Nat.ble_eq] at h
  exact ⟨q - 10100, by show q - 10100 < 27; omega, by omega⟩
theorem qtv_d {q : Nat} (h : qtv q = true) : ∃ j, j < qTxt.length ∧ q = 10200 + j := by
  simp only [qtv, Bool.and_eq_true, Nat.blt_eq, Nat.ble_eq] at h
  exact ⟨q - 10200, by show q - 10200 < 27; omega, by omega⟩
section
variable {ρ : Type}
noncomputable def oSv (t : qT ρ) : qT ρ := fun lo st m => match st with
  | .ref q :: s => bif qtx q then t lo (.ref (q + 100) :: s) m else none
  | _ => none
noncomputable def oSk (t : qT ρ) : qT ρ := fun lo st m => match st with
  | .ref q :: s => bif qtx q then t lo (.int 0 :: s) m else none
  | _ => none
noncomputable def oTl (t : qT ρ) : qT ρ := fun lo st m => match st with
  | .ref q :: s => bif qtv q then t lo (.int (Int32.ofNat (qTlen (q - 10200))) :: s) m else none
  | _ => none
noncomputable def oTb (t : qT ρ) : qT ρ := fun lo st m => match st with
  | .int i :: .ref q :: s => bif qtv q then (bif inb i (qTlen (q - 10200)) then t lo (.int (qTb8 (q - 10200) (ix i)) :: s) m else none) else none
  | _ => none
noncomputable def eS : qT (Int32 × qM) := fun _ st m => match st with
  | [.int x] => bif leb 0 x then (bif leb x 127 then some (x, m) else none) else none
  | _ => none
variable {C : qCx} {w : qWp} {own : String} {cc : ByteArray} {nL dp n0 n1 : Nat} {Qf : ρ → State → Prop} {fin : Nat → Nat → Option Nat} {n pc : Nat} {t : qT ρ}
theorem tSv {ix : Nat} (h : qOk C w own cc nL dp n0 n1) (d : decode cc pc = .ok (.getfield ix, 3)) (hl : Jvm.Cond.fieldLink own ix "java/lang/String" "value" "[B" ∈ qTw) (kk : qSnd C w nL n0 Qf fin n (pc + 3) t) : qSnd C w nL n0 Qf fin n pc (oSv t) := by
  intro lo st mm r hr hF H ls locs a2 a3 a4
  have hG := qOk_G h
  unfold oSv at hr
  split at hr
  · obtain ⟨h1, h2⟩ := qbt hr
    obtain ⟨j, hj, rfl⟩ := qtx_d h1
    obtain ⟨a, v, k1, k2, k3, k4, k5, k6⟩ := hG.2.2.2.2.2.2.2.2.2.2.1 j hj
    rw [List.map_cons, show qcv w.2.1 (.ref (10100 + j)) = .ref a from k1]
    obtain ⟨p, l, e, R, s, m, args, below, meth, cd⟩ := C
    have := kk lo _ mm r h2 hF H ls locs a2 a3 a4
    rw [List.map_cons, show qcv w.2.1 (.ref (10100 + j + 100)) = .ref v by rw [show 10100 + j + 100 = 10200 + j by omega]; exact k6] at this
    exact vk_getf h.1 h.2.1 k4 a3 h.2.2.2.1 (h.2.2.2.2.1 _ hl) (fun _ h9 => h9) d this
  · cases hr
theorem tSk {ix : Nat} (h : qOk C w own cc nL dp n0 n1) (d : decode cc pc = .ok (.getfield ix, 3)) (hl : Jvm.Cond.fieldLink own ix "java/lang/String" "coder" "B" ∈ qTw) (kk : qSnd C w nL n0 Qf fin n (pc + 3) t) : qSnd C w nL n0 Qf fin n pc (oSk t) := by
  intro lo st mm r hr hF H ls locs a2 a3 a4
  have hG := qOk_G h
  unfold oSk at hr
  split at hr
  · obtain ⟨h1, h2⟩ := qbt hr
    obtain ⟨j, hj, rfl⟩ := qtx_d h1
    obtain ⟨a, v, k1, k2, k3, k4, k5, k6⟩ := hG.2.2.2.2.2.2.2.2.2.2.1 j hj
    rw [List.map_cons, show qcv w.2.1 (.ref (10100 + j)) = .ref a from k1]
    obtain ⟨p, l, e, R, s, m, args, below, meth, cd⟩ := C
    exact vk_getf h.1 h.2.1 k3 a3 h.2.2.2.1 (h.2.2.2.2.1 _ hl) (fun _ h9 => h9) d (kk lo _ mm r h2 hF H ls locs a2 a3 a4)
  · cases hr
theorem tTl (h : qOk C w own cc nL dp n0 n1) (d : decode cc pc = .ok (.arraylength, 1)) (kk : qSnd C w nL n0 Qf fin n (pc + 1) t) : qSnd C w nL n0 Qf fin n pc (oTl t) := by
  intro lo st mm r hr hF H ls locs a2 a3 a4
  have hG := qOk_G h
  unfold oTl at hr
  split at hr
  · obtain ⟨h1, h2⟩ := qbt hr
    obtain ⟨j, hj, rfl⟩ := qtv_d h1
    obtain ⟨a, v, k1, k2, k3, k4, k5, k6⟩ := hG.2.2.2.2.2.2.2.2.2.2.1 j hj
    rw [List.map_cons, show qcv w.2.1 (.ref (10200 + j)) = .ref v from k6]
    rw [show 10200 + j - 10200 = j by omega] at h2
    obtain ⟨p, l, e, R, s, m, args, below, meth, cd⟩ := C
    exact va_tlen h.1 h.2.1 k5 a3 rfl d (kk lo _ mm r h2 hF H ls locs a2 a3 a4)
  · cases hr
theorem tTb (h : qOk C w own cc nL dp n0 n1) (d : decode cc pc = .ok (.baload, 1)) (kk : qSnd C w nL n0 Qf fin n (pc + 1) t) : qSnd C w nL n0 Qf fin n pc (oTb t) := by
  intro lo st mm r hr hF H ls locs a2 a3 a4
  have hG := qOk_G h
  unfold oTb at hr
  split at hr
  · obtain ⟨h1, h2⟩ := qbt hr
    obtain ⟨h3, h4⟩ := qbt h2
    obtain ⟨j, hj, rfl⟩ := qtv_d h1
    obtain ⟨a, v, k1, k2, k3, k4, k5, k6⟩ := hG.2.2.2.2.2.2.2.2.2.2.1 j hj
    rw [List.map_cons, List.map_cons, show qcv w.2.1 (.ref (10200 + j)) = .ref v from k6]
    rw [show 10200 + j - 10200 = j by omega] at h3 h4
    obtain ⟨p, l, e, R, s, m, args, below, meth, cd⟩ := C
    have h5 := kk lo _ mm r h4 hF H ls locs a2 a3 a4
    rw [ix_d] at h5
    exact va_tb h.1 h.2.1 k5 a3 (inb_in h3) rfl d h5
  · cases hr
theorem tCs {ix : Nat} (h : qOk C w own cc nL dp n0 n1) (d : decode cc pc = .ok (.getstatic ix, 3)) (hl : Jvm.Cond.fieldLink own ix "java/lang/String" "COMPACT_STRINGS" "Z" ∈ qTw) (k : qSnd C w nL n0 Qf fin n (pc + 3) t) : qSnd C w nL n0 Qf fin n pc (oC (.int 1) t) := by
  intro lo st mm r hr hF H ls locs a2 a3 a4
  have hG := qOk_G h
  obtain ⟨p, l, e, R, s, m, args, below, meth, c⟩ := C
  exact va_gets h.1 h.2.1 hG.2.2.2.2.2.2.2.2.1 a3 h.2.2.2.1 (h.2.2.2.2.1 _ hl) (fun _ h9 => h9) d (k lo _ mm r hr hF H ls locs a2 a3 a4)
theorem aI2c (h : qOk C w own cc nL dp n0 n1) (d : decode cc pc = .ok (.i2c, 1)) (kk : qSnd C w nL n0 Qf fin n (pc + 1) t) : qSnd C w nL n0 Qf fin n pc (o1 (fun x => (x.toUInt32 % 65536).toInt32) t) := by
  intro lo st mm r hr hF H ls locs a2 a3 a4
  obtain ⟨x, t', rfl, h1⟩ := q1_some hr
  obtain ⟨p, l, e, R, s, m, args, below, meth, cd⟩ := C
  exact lv_i2c h.1 h.2.1 d rfl (kk lo _ mm r h1 hF H ls locs a2 a3 a4)
theorem zS {ty : FieldType} (hty : ty = .byte ∨ ty = .char) (h : qOk C w own cc nL dp n0 n1) (hm : qMt C (some ty)) (hn0 : n0 ≤ n) (d : decode cc pc = .ok (.ireturn, 1)) : qSnd C w nL n0 (qQf C w n0 n jI) fin n pc eS := by
  intro lo st m r hr hF H ls locs a2 a3 a4
  unfold eS at hr
  split at hr
  · rename_i x
    obtain ⟨h1, h2⟩ := qbt hr
    obtain ⟨h3, h4⟩ := qbt h2
    cases h4
    rw [leb_d] at h1 h3
    have h1 := of_decide_eq_true h1
    have h3 := of_decide_eq_true h3
    have hn : narrow ty (.int x) = .int x := by
      obtain ⟨k, hk, rfl⟩ : ∃ k : Nat, k ≤ 127 ∧ x = nI k := by
        refine ⟨x.toInt.toNat, ?_, ?_⟩
        · have := Int32.le_iff_toInt_le.mp h3
          have : x.toInt ≤ 127 := this
          omega
        · have g := Int32.le_iff_toInt_le.mp h1
          have g : 0 ≤ x.toInt := g
          have g3 := Int32.le_iff_toInt_le.mp h3
          have g3 : x.toInt ≤ 127 := g3
          apply Int32.toInt_inj.mp
          show x.toInt = (Int32.ofNat x.toInt.toNat).toInt
          rw [Int32.toInt_ofNat_of_lt (by omega)]
          omega
      have key : ∀ k, k ≤ 127 → narrow .byte (.int (nI k)) = .int (nI k) ∧ narrow .char (.int (nI k)) = .int (nI k) := by decide +kernel
      rcases hty with rfl | rfl
      · exact (key k hk).1
      · exact (key k hk).2
    obtain ⟨p, l, e, R, s, mi, args, below, meth, cd⟩ := C
    have hsz := h.2.2.2.2.2.2.2.2.2.2.2.2.1
    refine qW_size (fun hz => ?_)
    have hz2 := qsize hsz hn0 hz a2 a3
    exact vx_ret (qWret (v' := x) h.1 h.2.1 hm.1 hn (fun t ht hW => ⟨_, rfl, rfl, qEnd_of ht hz2 a2 a3⟩) (qlocs a3) d hm.2)
  · cases hr
end
theorem qRc_txt {y : MethodName} {q n : Nat} {av : List Value} (h : qtx q = true) (hy : y.cls = "java/lang/String") : qRc y n (.ref q :: av) := by
  obtain ⟨j, hj, rfl⟩ := qtx_d h
  exact Or.inr ⟨j, av, rfl, hj, hy⟩
