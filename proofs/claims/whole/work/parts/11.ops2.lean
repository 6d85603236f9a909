/-! fields, rows, numbers, branches -/
section
variable {ρ : Type} {C : qCx} {w : qWp} {own : String} {cc : ByteArray} {nL dp n0 n1 : Nat} {Qf : ρ → State → Prop} {fin : Nat → Nat → Option Nat} {n pc : Nat} {t : qT ρ}
theorem qbeq {a b : Nat} {x : Option ρ} {r : ρ} (h : (bif Nat.beq a b then x else none) = some r) : a = b ∧ x = some r := by
  cases e : Nat.beq a b with
  | false => rw [e] at h; cases h
  | true => rw [e] at h; exact ⟨Nat.eq_of_beq_eq_true e, h⟩
theorem qble {a b : Nat} {x : Option ρ} {r : ρ} (h : (bif Nat.ble a b then x else none) = some r) : a ≤ b ∧ x = some r := by
  cases e : Nat.ble a b with
  | false => rw [e] at h; cases h
  | true => rw [e] at h; exact ⟨Nat.le_of_ble_eq_true e, h⟩
theorem qbt {b : Bool} {x : Option ρ} {r : ρ} (h : (bif b then x else none) = some r) : b = true ∧ x = some r := by
  cases b with
  | false => cases h
  | true => exact ⟨rfl, h⟩
theorem qbf {b : Bool} {x : Option ρ} {r : ρ} (h : (bif b then none else x) = some r) : b = false ∧ x = some r := by
  cases b with
  | false => exact ⟨rfl, h⟩
  | true => cases h
theorem inb_in {i : Int32} {k : Nat} (h : inb i k = true) : vp_in i k := by
  rw [inb_d] at h
  unfold vp_in
  exact of_decide_eq_true h
theorem qTY_of {t : FieldType} (h : qkd t = 0) : t = .int := by cases t <;> first | rfl | (simp [qkd] at h)
theorem qTY_of1 {t : FieldType} (h : qkd t = 1) : t = .boolean := by cases t <;> first | rfl | (simp [qkd] at h)
theorem qTY_of2 {t : FieldType} (h : qkd t = 2) : t = .long := by cases t <;> first | rfl | (simp [qkd] at h)
theorem qTY_of3 {t : FieldType} (h : qkd t = 3) : (∃ c, t = .object c) ∨ ∃ a, t = .array a := by
  cases t with
  | object c => exact Or.inl ⟨c, rfl⟩
  | array a => exact Or.inr ⟨a, rfl⟩
  | _ => simp [qkd] at h
/-- a field of the object c is read: what the cell holds -/
theorem qget {ix c ci k ty : Nat} (h : qOk C w own cc nL dp n0 n1) (d : decode cc pc = .ok (.getfield ix, 3)) (f : qFd own ix c ci k ty) (hn : c < n) {m : qM} {H : Heap} {ls : Array Slot} {locs : List Loc} {cells slots : Nat} {Q : State → Prop} {rest : List Value}
    (hP : va_P (w.2.2.2.1, w.2.2.2.2.1) qCL (qws w n m) H) (kk : qWj C H locs cells slots Q (F0 (qMe C) (pc + 3) ls (qfv w.2.2.2.2.2 w.2.1 m c k ty :: rest))) : qWj C H locs cells slots Q (F0 (qMe C) pc ls (.ref (w.1 + c) :: rest)) := by
  obtain ⟨p, l, e, R, s, mm, args, below, meth, cd⟩ := C
  obtain ⟨hx, hb, -, ho, hts, hK, -⟩ := h
  obtain ⟨hl, hs, hci, hk⟩ := f
  obtain ⟨Cn, N, hq⟩ := qCk_all ci hci
  have hkN := (qft_lt hq hk).1
  have he := qws_at (w := w) m hn
  rw [hs] at he
  refine va_get (D := (w.2.2.2.1, w.2.2.2.2.1)) hx hb hts hq.2.1 ho hK hP c he hq.1 k hkN (hts _ hl) (fun _ h9 => h9) ?_ d kk
  rw [qfl_get (qft ci) 0 k ty hk, Nat.zero_add]
theorem qOk_X (h : qOk C w own cc nL dp n0 n1) : ∀ i, i < 1000 → w.2.1 i = .ref (w.1 + i) := by
  obtain ⟨p, l, e, R, s, m, args, below, meth, c⟩ := C
  exact h.2.2.2.2.2.2.1
theorem qOk_Xr (h : qOk C w own cc nL dp n0 n1) : qXr w.2.1 := by
  obtain ⟨p, l, e, R, s, m, args, below, meth, c⟩ := C
  exact h.2.2.2.2.2.2.2.1
theorem qX_at {X : Nat → Value} {B c n : Nat} (hX : ∀ i, i < 1000 → X i = .ref (B + i)) (hn : c < n) (hN : n ≤ 1000) : qcv X (.ref c) = .ref (B + c) := hX c (by omega)
theorem gGi {ix c ci k : Nat} (h : qOk C w own cc nL dp n0 n1) (d : decode cc pc = .ok (.getfield ix, 3)) (f : qFd own ix c ci k 0) (hn : c < n) (hN : n ≤ 1000) (kk : qSnd C w nL n0 Qf fin n (pc + 3) t) : qSnd C w nL n0 Qf fin n pc (oGi c k t) := by
  intro lo st mm r hr hF H ls locs a2 a3 a4
  unfold oGi at hr
  split at hr
  · obtain ⟨rfl, h1⟩ := qbeq hr
    rw [List.map_cons, qX_at (qOk_X h) hn hN]
    exact qget h d f hn a2 (kk lo _ mm r h1 hF H ls locs a2 a3 a4)
  · cases hr
theorem gGz {ix c ci k : Nat} (h : qOk C w own cc nL dp n0 n1) (d : decode cc pc = .ok (.getfield ix, 3)) (f : qFd own ix c ci k 1) (hn : c < n) (hN : n ≤ 1000) (kk : qSnd C w nL n0 Qf fin n (pc + 3) t) : qSnd C w nL n0 Qf fin n pc (oGi c k t) := by
  intro lo st mm r hr hF H ls locs a2 a3 a4
  unfold oGi at hr
  split at hr
  · obtain ⟨rfl, h1⟩ := qbeq hr
    rw [List.map_cons, qX_at (qOk_X h) hn hN]
    exact qget h d f hn a2 (kk lo _ mm r h1 hF H ls locs a2 a3 a4)
  · cases hr
theorem gGl {ix c ci k : Nat} (h : qOk C w own cc nL dp n0 n1) (d : decode cc pc = .ok (.getfield ix, 3)) (f : qFd own ix c ci k 2) (hn : c < n) (hN : n ≤ 1000) (kk : qSnd C w nL n0 Qf fin n (pc + 3) t) : qSnd C w nL n0 Qf fin n pc (oGl c k t) := by
  intro lo st mm r hr hF H ls locs a2 a3 a4
  unfold oGl at hr
  split at hr
  · obtain ⟨rfl, h1⟩ := qbeq hr
    rw [List.map_cons, qX_at (qOk_X h) hn hN]
    exact qget h d f hn a2 (kk lo _ mm r h1 hF H ls locs a2 a3 a4)
  · cases hr
theorem gGf {ix c ci k q : Nat} (h : qOk C w own cc nL dp n0 n1) (d : decode cc pc = .ok (.getfield ix, 3)) (f : qFd own ix c ci k 3) (hn : c < n) (hN : n ≤ 1000) (hf : fin c k = some q) (kk : qSnd C w nL n0 Qf fin n (pc + 3) t) : qSnd C w nL n0 Qf fin n pc (oGf c k q t) := by
  intro lo st mm r hr hF H ls locs a2 a3 a4
  unfold oGf at hr
  split at hr
  · obtain ⟨rfl, h1⟩ := qbeq hr
    rw [List.map_cons, qX_at (qOk_X h) hn hN]
    refine qget h d f hn a2 ?_
    have := kk lo _ mm r h1 hF H ls locs a2 a3 a4
    simp only [qfv, show w.2.2.2.2.2 = fin from hF, hf]
    exact this
  · cases hr
theorem gGr {ix c ci k : Nat} (h : qOk C w own cc nL dp n0 n1) (d : decode cc pc = .ok (.getfield ix, 3)) (f : qFd own ix c ci k 3) (hn : c < n) (hN : n ≤ 1000) (hf : fin c k = none) (kk : qSnd C w nL n0 Qf fin n (pc + 3) t) : qSnd C w nL n0 Qf fin n pc (oGr c k t) := by
  intro lo st mm r hr hF H ls locs a2 a3 a4
  unfold oGr at hr
  split at hr
  · obtain ⟨rfl, h1⟩ := qbeq hr
    rw [List.map_cons, qX_at (qOk_X h) hn hN]
    refine qget h d f hn a2 ?_
    simp only [qfv, show w.2.2.2.2.2 = fin from hF, hf]
    unfold qbN at h1
    split at h1
    · rename_i x hx
      rw [hx]
      exact kk lo _ mm r h1 hF H ls locs a2 a3 a4
    · rename_i hx
      rw [hx]
      exact kk lo _ mm r h1 hF H ls locs a2 a3 a4
  · cases hr
/-- a field of the object c is written -/
theorem qput {ix c ci k ty : Nat} {m m' : qM} {v : Value} (h : qOk C w own cc nL dp n0 n1) (d : decode cc pc = .ok (.putfield ix, 3)) (f : qFd own ix c ci k ty) (hfin : (qTb ci k).2.2.2 = false ∨ ((qTb ci k).2.2.2 = true ∧ C.2.2.2.2.2.2.2.2.1.name = "<init>" ∧ (qTb ci k).1 = own)) (hn : c < n)
    (ho : qOff c m m') (hv : qfv w.2.2.2.2.2 w.2.1 m' c k ty = v) (hoth : ∀ j' t', j' ≠ k → qfv w.2.2.2.2.2 w.2.1 m' c j' t' = qfv w.2.2.2.2.2 w.2.1 m c j' t') (hnar : narrow (qTY ci k) v = v) (hfit : fits (qTY ci k) v = true)
    {H : Heap} {ls : Array Slot} {locs : List Loc} {cells slots : Nat} {Q : State → Prop} {rest : List Value}
    (hP : va_P (w.2.2.2.1, w.2.2.2.2.1) qCL (qws w n m) H) (hS : va_S (qAd w.1) (qSt C).heap H locs)
    (kk : ∀ (H1 : Heap) (locs1 : List Loc), va_P (w.2.2.2.1, w.2.2.2.2.1) qCL (qws w n m') H1 → va_S (qAd w.1) (qSt C).heap H1 locs1 → qWj C H1 locs1 cells slots Q (F0 (qMe C) (pc + 3) ls rest)) : qWj C H locs cells slots Q (F0 (qMe C) pc ls (v :: .ref (w.1 + c) :: rest)) := by
  obtain ⟨p, l, e, R, s, mm, args, below, meth, cd⟩ := C
  obtain ⟨hx, hb, -, hown, hts, hK, -⟩ := h
  obtain ⟨hl, hs, hci, hk⟩ := f
  obtain ⟨Cn, N, hq⟩ := qCk_all ci hci
  have hkN := (qft_lt hq hk).1
  have he := qws_at (w := w) m hn
  rw [hs] at he
  have hset : qws w n m' = (qws w n m).set c (w.1 + c, .inr (ci, (qfl w.2.2.2.2.2 w.2.1 m c 0 (qft ci)).set k v)) := by
    have he2 : qent w.1 w.2.2.2.2.2 w.2.1 w.2.2.1 m' c (0, ci) = .inr (ci, (qfl w.2.2.2.2.2 w.2.1 m c 0 (qft ci)).set k v) := by
      show (Sum.inr (ci, qfl w.2.2.2.2.2 w.2.1 m' c 0 (qft ci)) : va_E) = _
      rw [qfl_set (v := v) (m := m) (qft ci) 0 k ty hk (by rw [Nat.zero_add]; exact hv) (fun j' t' hj => hoth j' t' (by omega))]
    rw [qws_set hn ho, hs, he2]
  have hlen : k < (qfl w.2.2.2.2.2 w.2.1 m c 0 (qft ci)).length := by
    rw [qfl_len]
    exact (List.getElem?_eq_some_iff.mp hk).1
  rcases hfin with hf | ⟨hf, hin, hde⟩
  · refine va_put (D := (w.2.2.2.1, w.2.2.2.2.1)) hx hb hts hq.2.1 (qTY ci) hq.2.2.1 hq.2.2.2.1 hown hK hP (qws_D w n m) hS c he hq.1 k hkN (hts _ hl) (fun _ h9 => h9) hf (hq.2.2.1 k hkN) hnar hfit hlen d (fun H1 locs1 b1 b2 b3 => ?_)
    rw [← hset] at b1
    exact kk H1 locs1 b1 b3
  · refine va_putF (D := (w.2.2.2.1, w.2.2.2.2.1)) hx hb hts hq.2.1 (qTY ci) hq.2.2.1 hq.2.2.2.1 hown hK hP (qws_D w n m) hS c he hq.1 k hkN (hts _ hl) (fun _ h9 => h9) hf hin hde (hq.2.2.1 k hkN) hnar hfit hlen d (fun H1 locs1 b1 b2 b3 => ?_)
    rw [← hset] at b1
    exact kk H1 locs1 b1 b3
theorem qfv_sI {fn : Nat → Nat → Option Nat} {X : Nat → Value} {m : qM} {c k : Nat} {v : Int32} {j t : Nat} (h : j ≠ k) : qfv fn X (sI m c k v) c j t = qfv fn X m c j t := by
  unfold qfv
  rw [gL_sI, gR_sI, gI_sI, if_neg (fun z => h z.2)]
theorem qfv_sL {fn : Nat → Nat → Option Nat} {X : Nat → Value} {m : qM} {c k : Nat} {v : Int64} {j t : Nat} (h : j ≠ k) : qfv fn X (sL m c k v) c j t = qfv fn X m c j t := by
  unfold qfv
  rw [gI_sL, gR_sL, gL_sL, if_neg (fun z => h z.2)]
theorem qfv_sR {fn : Nat → Nat → Option Nat} {X : Nat → Value} {m : qM} {c k : Nat} {v : Option Nat} {j t : Nat} (h : j ≠ k) : qfv fn X (sR m c k v) c j t = qfv fn X m c j t := by
  unfold qfv
  rw [gI_sR, gL_sR, gR_sR, if_neg (fun z => h z.2)]
/-- a field that may be written here -/
def qMu (own : String) (ci k : Nat) (C : qCx) : Prop := (qTb ci k).2.2.2 = false ∨ ((qTb ci k).2.2.2 = true ∧ C.2.2.2.2.2.2.2.2.1.name = "<init>" ∧ (qTb ci k).1 = own)
theorem qkd_of {ix c ci k ty : Nat} (f : qFd own ix c ci k ty) : qkd (qTY ci k) = ty := by
  obtain ⟨Cn, N, hq⟩ := qCk_all ci f.2.2.1
  exact (qft_lt hq f.2.2.2).2.symm
theorem gPi {ix c ci k : Nat} (h : qOk C w own cc nL dp n0 n1) (d : decode cc pc = .ok (.putfield ix, 3)) (f : qFd own ix c ci k 0) (hm : qMu own ci k C) (hn : c < n) (hN : n ≤ 1000) (kk : qSnd C w nL n0 Qf fin n (pc + 3) t) : qSnd C w nL n0 Qf fin n pc (oPi c k t) := by
  intro lo st mm r hr hF H ls locs a2 a3 a4
  unfold oPi at hr
  split at hr
  · rename_i x r1 s1
    obtain ⟨rfl, h1⟩ := qbeq hr
    have hty := qTY_of (qkd_of f)
    rw [List.map_cons, List.map_cons, qX_at (qOk_X h) hn hN]
    exact qput (v := .int x) h d f hm hn (qOff_sI mm r1 k x) (by simp [qfv, gI_sI]) (fun j' t' hj => qfv_sI hj) (by rw [hty]; rfl) (by rw [hty]; rfl) a2 a3 (fun H1 locs1 b1 b2 => kk lo _ _ r h1 hF H1 ls locs1 b1 b2 a4)
  · cases hr
theorem gPz {ix c ci k : Nat} (h : qOk C w own cc nL dp n0 n1) (d : decode cc pc = .ok (.putfield ix, 3)) (f : qFd own ix c ci k 1) (hm : qMu own ci k C) (hn : c < n) (hN : n ≤ 1000) (kk : qSnd C w nL n0 Qf fin n (pc + 3) t) : qSnd C w nL n0 Qf fin n pc (oPz c k t) := by
  intro lo st mm r hr hF H ls locs a2 a3 a4
  unfold oPz at hr
  split at hr
  · rename_i x r1 s1
    obtain ⟨rfl, h1⟩ := qbeq hr
    obtain ⟨hb, h2⟩ := qbt h1
    have hty := qTY_of1 (qkd_of f)
    rw [qb_d] at hb
    have hx := of_decide_eq_true hb
    rw [List.map_cons, List.map_cons, qX_at (qOk_X h) hn hN]
    exact qput (v := .int x) h d f hm hn (qOff_sI mm r1 k x) (by simp [qfv, gI_sI]) (fun j' t' hj => qfv_sI hj) (by rw [hty]; rcases hx with rfl | rfl <;> rfl) (by rw [hty]; rcases hx with rfl | rfl <;> rfl) a2 a3 (fun H1 locs1 b1 b2 => kk lo _ _ r h2 hF H1 ls locs1 b1 b2 a4)
  · cases hr
theorem gPl {ix c ci k : Nat} (h : qOk C w own cc nL dp n0 n1) (d : decode cc pc = .ok (.putfield ix, 3)) (f : qFd own ix c ci k 2) (hm : qMu own ci k C) (hn : c < n) (hN : n ≤ 1000) (kk : qSnd C w nL n0 Qf fin n (pc + 3) t) : qSnd C w nL n0 Qf fin n pc (oPl c k t) := by
  intro lo st mm r hr hF H ls locs a2 a3 a4
  unfold oPl at hr
  split at hr
  · rename_i x r1 s1
    obtain ⟨rfl, h1⟩ := qbeq hr
    have hty := qTY_of2 (qkd_of f)
    rw [List.map_cons, List.map_cons, qX_at (qOk_X h) hn hN]
    exact qput (v := .long x) h d f hm hn (qOff_sL mm r1 k x) (by simp [qfv, gL_sL]) (fun j' t' hj => qfv_sL hj) (by rw [hty]; rfl) (by rw [hty]; rfl) a2 a3 (fun H1 locs1 b1 b2 => kk lo _ _ r h1 hF H1 ls locs1 b1 b2 a4)
  · cases hr
theorem gPr {ix c ci k : Nat} (h : qOk C w own cc nL dp n0 n1) (d : decode cc pc = .ok (.putfield ix, 3)) (f : qFd own ix c ci k 3) (hm : qMu own ci k C) (hn : c < n) (hN : n ≤ 1000) (hf : fin c k = none) (kk : qSnd C w nL n0 Qf fin n (pc + 3) t) : qSnd C w nL n0 Qf fin n pc (oPr c k t) := by
  intro lo st mm r hr hF H ls locs a2 a3 a4
  have hty := qTY_of3 (qkd_of f)
  have hXr := qOk_Xr h
  unfold oPr at hr
  split at hr
  · rename_i q r1 s1
    obtain ⟨rfl, h1⟩ := qbeq hr
    rw [List.map_cons, List.map_cons, qX_at (qOk_X h) hn hN]
    refine qput (v := w.2.1 q) h d f hm hn (qOff_sR mm r1 k (some q)) (by simp [qfv, gR_sR, show w.2.2.2.2.2 = fin from hF, hf]) (fun j' t' hj => qfv_sR hj) ?_ ?_ a2 a3 (fun H1 locs1 b1 b2 => kk lo _ _ r h1 hF H1 ls locs1 b1 b2 a4)
    · rcases hXr q with e | ⟨a, e⟩ <;> rw [e] <;> rcases hty with ⟨_, e2⟩ | ⟨_, e2⟩ <;> rw [e2] <;> rfl
    · rcases hXr q with e | ⟨a, e⟩ <;> rw [e] <;> rcases hty with ⟨_, e2⟩ | ⟨_, e2⟩ <;> rw [e2] <;> rfl
  · rename_i r1 s1
    obtain ⟨rfl, h1⟩ := qbeq hr
    rw [List.map_cons, List.map_cons, qX_at (qOk_X h) hn hN]
    refine qput (v := .null) h d f hm hn (qOff_sR mm r1 k none) (by simp [qfv, gR_sR, show w.2.2.2.2.2 = fin from hF, hf]) (fun j' t' hj => qfv_sR hj) ?_ ?_ a2 a3 (fun H1 locs1 b1 b2 => kk lo _ _ r h1 hF H1 ls locs1 b1 b2 a4)
    · rcases hty with ⟨_, e2⟩ | ⟨_, e2⟩ <;> rw [e2] <;> rfl
    · rcases hty with ⟨_, e2⟩ | ⟨_, e2⟩ <;> rw [e2] <;> rfl
  · cases hr
end
