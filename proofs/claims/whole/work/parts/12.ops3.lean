/-! rows, numbers, branches -/
section
variable {ρ : Type} {C : qCx} {w : qWp} {own : String} {cc : ByteArray} {nL dp n0 n1 : Nat} {Qf : ρ → State → Prop} {fin : Nat → Nat → Option Nat} {n pc : Nat} {t : qT ρ}
theorem qent_1 (B : Nat) (fn : Nat → Nat → Option Nat) (X : Nat → Value) (DA : Nat → ClassId) (m : qM) (i k : Nat) : qent B fn X DA m i (1, k) = .inl (DA 1, k, .inl (gI m i)) := rfl
theorem qent_2 (B : Nat) (fn : Nat → Nat → Option Nat) (X : Nat → Value) (DA : Nat → ClassId) (m : qM) (i k : Nat) : qent B fn X DA m i (2, k) = .inl (DA 2, k, .inl (gI m i)) := rfl
theorem qent_3 (B : Nat) (fn : Nat → Nat → Option Nat) (X : Nat → Value) (DA : Nat → ClassId) (m : qM) (i k : Nat) : qent B fn X DA m i (3, k) = .inl (DA 3, k, .inl (gI m i)) := rfl
theorem qent_4 (B : Nat) (fn : Nat → Nat → Option Nat) (X : Nat → Value) (DA : Nat → ClassId) (m : qM) (i k : Nat) : qent B fn X DA m i (4, k) = .inl (DA 4, k, .inr (.inl (gL m i))) := rfl
theorem qent_5 (B : Nat) (fn : Nat → Nat → Option Nat) (X : Nat → Value) (DA : Nat → ClassId) (m : qM) (i k : Nat) : qent B fn X DA m i (5, k) = .inl (DA 5, k, .inr (.inr (.inr (.inr (fun j => (gR m i j).map (B + ·)))))) := rfl
theorem gI_row (m : qM) (c k : Nat) (v : Int32) : gI (sI m c k v) c = upd (gI m c) k v := by
  funext j
  rw [gI_sI]
  simp [upd]
theorem gL_row (m : qM) (c k : Nat) (v : Int64) : gL (sL m c k v) c = vp_updL (gL m c) k v := by
  funext j
  rw [gL_sL]
  simp [vp_updL]
theorem gR_row (m : qM) (c k B x : Nat) : (fun j => (gR (sR m c k (some x)) c j).map (B + ·)) = va_up (fun j => (gR m c j).map (B + ·)) k (some (B + x)) := by
  funext j
  rw [gR_sR]
  unfold va_up
  by_cases h : j = k <;> simp [h]
theorem rAi {c k : Nat} (h : qOk C w own cc nL dp n0 n1) (d : decode cc pc = .ok (.iaload, 1)) (hs : qsh c = (1, k)) (hn : c < n) (hN : n ≤ 1000) (kk : qSnd C w nL n0 Qf fin n (pc + 1) t) : qSnd C w nL n0 Qf fin n pc (oAi c k t) := by
  intro lo st mm r hr hF H ls locs a2 a3 a4
  unfold oAi at hr
  split at hr
  · rename_i i r1 s1
    obtain ⟨rfl, h1⟩ := qbeq hr
    obtain ⟨h2, h3⟩ := qbt h1
    have hX := qX_at (qOk_X h) hn hN
    obtain ⟨p, l, e, R, s, m, args, below, meth, cd⟩ := C
    obtain ⟨hx, hb, -, -, -, hK, -⟩ := h
    have he := qws_at (w := w) mm hn
    rw [hs, qent_1] at he
    rw [List.map_cons, List.map_cons, hX]
    have h4 := kk lo _ mm r h3 hF H ls locs a2 a3 a4
    rw [ix_d] at h4
    exact va_iald hx hb hK a2 r1 0 he rfl (inb_in h2) d h4
  · cases hr
theorem rAz {c k : Nat} (h : qOk C w own cc nL dp n0 n1) (d : decode cc pc = .ok (.baload, 1)) (hs : qsh c = (2, k)) (hn : c < n) (hN : n ≤ 1000) (kk : qSnd C w nL n0 Qf fin n (pc + 1) t) : qSnd C w nL n0 Qf fin n pc (oAi c k t) := by
  intro lo st mm r hr hF H ls locs a2 a3 a4
  unfold oAi at hr
  split at hr
  · rename_i i r1 s1
    obtain ⟨rfl, h1⟩ := qbeq hr
    obtain ⟨h2, h3⟩ := qbt h1
    have hX := qX_at (qOk_X h) hn hN
    obtain ⟨p, l, e, R, s, m, args, below, meth, cd⟩ := C
    obtain ⟨hx, hb, -, -, -, hK, -⟩ := h
    have he := qws_at (w := w) mm hn
    rw [hs, qent_2] at he
    rw [List.map_cons, List.map_cons, hX]
    have h4 := kk lo _ mm r h3 hF H ls locs a2 a3 a4
    rw [ix_d] at h4
    exact va_zald hx hb hK a2 r1 1 he rfl (inb_in h2) d h4
  · cases hr
theorem rAb {c k : Nat} (h : qOk C w own cc nL dp n0 n1) (d : decode cc pc = .ok (.baload, 1)) (hs : qsh c = (3, k)) (hn : c < n) (hN : n ≤ 1000) (kk : qSnd C w nL n0 Qf fin n (pc + 1) t) : qSnd C w nL n0 Qf fin n pc (oAi c k t) := by
  intro lo st mm r hr hF H ls locs a2 a3 a4
  unfold oAi at hr
  split at hr
  · rename_i i r1 s1
    obtain ⟨rfl, h1⟩ := qbeq hr
    obtain ⟨h2, h3⟩ := qbt h1
    have hX := qX_at (qOk_X h) hn hN
    obtain ⟨p, l, e, R, s, m, args, below, meth, cd⟩ := C
    obtain ⟨hx, hb, -, -, -, hK, -⟩ := h
    have he := qws_at (w := w) mm hn
    rw [hs, qent_3] at he
    rw [List.map_cons, List.map_cons, hX]
    have h4 := kk lo _ mm r h3 hF H ls locs a2 a3 a4
    rw [ix_d] at h4
    exact va_bald hx hb hK a2 r1 2 he rfl (inb_in h2) d h4
  · cases hr
theorem rAl {c k : Nat} (h : qOk C w own cc nL dp n0 n1) (d : decode cc pc = .ok (.laload, 1)) (hs : qsh c = (4, k)) (hn : c < n) (hN : n ≤ 1000) (kk : qSnd C w nL n0 Qf fin n (pc + 1) t) : qSnd C w nL n0 Qf fin n pc (oAl c k t) := by
  intro lo st mm r hr hF H ls locs a2 a3 a4
  unfold oAl at hr
  split at hr
  · rename_i i r1 s1
    obtain ⟨rfl, h1⟩ := qbeq hr
    obtain ⟨h2, h3⟩ := qbt h1
    have hX := qX_at (qOk_X h) hn hN
    obtain ⟨p, l, e, R, s, m, args, below, meth, cd⟩ := C
    obtain ⟨hx, hb, -, -, -, hK, -⟩ := h
    have he := qws_at (w := w) mm hn
    rw [hs, qent_4] at he
    rw [List.map_cons, List.map_cons, hX]
    have h4 := kk lo _ mm r h3 hF H ls locs a2 a3 a4
    rw [ix_d] at h4
    exact va_lald hx hb hK a2 r1 3 he rfl (inb_in h2) d h4
  · cases hr
theorem rWi {c k : Nat} (h : qOk C w own cc nL dp n0 n1) (d : decode cc pc = .ok (.iastore, 1)) (hs : qsh c = (1, k)) (hn : c < n) (hN : n ≤ 1000) (kk : qSnd C w nL n0 Qf fin n (pc + 1) t) : qSnd C w nL n0 Qf fin n pc (oWi c k t) := by
  intro lo st mm r hr hF H ls locs a2 a3 a4
  unfold oWi at hr
  split at hr
  · rename_i x i r1 s1
    obtain ⟨rfl, h1⟩ := qbeq hr
    obtain ⟨h2, h3⟩ := qbt h1
    have hX := qX_at (qOk_X h) hn hN
    obtain ⟨p, l, e, R, s, m, args, below, meth, cd⟩ := C
    obtain ⟨hx, hb, -, -, -, hK, -⟩ := h
    have he := qws_at (w := w) mm hn
    rw [hs, qent_1] at he
    rw [List.map_cons, List.map_cons, List.map_cons, hX]
    refine va_iast hx hb hK a2 (qws_D w n mm) a3 r1 0 he rfl (inb_in h2) d (fun H1 locs1 b1 b2 b3 => ?_)
    refine kk lo _ _ r h3 hF H1 ls locs1 ?_ b3 a4
    rw [qws_set hn (qOff_sI mm r1 (ix i) x), hs, qent_1, gI_row, ix_d]
    exact b1
  · cases hr
theorem rWz {c k : Nat} (h : qOk C w own cc nL dp n0 n1) (d : decode cc pc = .ok (.bastore, 1)) (hs : qsh c = (2, k)) (hn : c < n) (hN : n ≤ 1000) (kk : qSnd C w nL n0 Qf fin n (pc + 1) t) : qSnd C w nL n0 Qf fin n pc (oWz c k t) := by
  intro lo st mm r hr hF H ls locs a2 a3 a4
  unfold oWz at hr
  split at hr
  · rename_i x i r1 s1
    obtain ⟨rfl, h1⟩ := qbeq hr
    obtain ⟨h2, h3⟩ := qbt h1
    have hX := qX_at (qOk_X h) hn hN
    obtain ⟨p, l, e, R, s, m, args, below, meth, cd⟩ := C
    obtain ⟨hx, hb, -, -, -, hK, -⟩ := h
    have he := qws_at (w := w) mm hn
    rw [hs, qent_2] at he
    rw [List.map_cons, List.map_cons, List.map_cons, hX]
    refine va_zast hx hb hK a2 (qws_D w n mm) a3 r1 1 he rfl (inb_in h2) d (fun H1 locs1 b1 b2 b3 => ?_)
    refine kk lo _ _ r h3 hF H1 ls locs1 ?_ b3 a4
    rw [qws_set hn (qOff_sI mm r1 (ix i) (nz x)), hs, qent_2, gI_row, ix_d]
    rw [nz_d]
    exact b1
  · cases hr
theorem rWb {c k : Nat} (h : qOk C w own cc nL dp n0 n1) (d : decode cc pc = .ok (.bastore, 1)) (hs : qsh c = (3, k)) (hn : c < n) (hN : n ≤ 1000) (kk : qSnd C w nL n0 Qf fin n (pc + 1) t) : qSnd C w nL n0 Qf fin n pc (oWb c k t) := by
  intro lo st mm r hr hF H ls locs a2 a3 a4
  unfold oWb at hr
  split at hr
  · rename_i x i r1 s1
    obtain ⟨rfl, h1⟩ := qbeq hr
    obtain ⟨h2, h3⟩ := qbt h1
    have hX := qX_at (qOk_X h) hn hN
    obtain ⟨p, l, e, R, s, m, args, below, meth, cd⟩ := C
    obtain ⟨hx, hb, -, -, -, hK, -⟩ := h
    have he := qws_at (w := w) mm hn
    rw [hs, qent_3] at he
    rw [List.map_cons, List.map_cons, List.map_cons, hX]
    refine va_bast hx hb hK a2 (qws_D w n mm) a3 r1 2 he rfl (inb_in h2) d (fun H1 locs1 b1 b2 b3 => ?_)
    refine kk lo _ _ r h3 hF H1 ls locs1 ?_ b3 a4
    rw [qws_set hn (qOff_sI mm r1 (ix i) (nb x)), hs, qent_3, gI_row, ix_d]
    rw [nb_d]
    exact b1
  · cases hr
theorem rWl {c k : Nat} (h : qOk C w own cc nL dp n0 n1) (d : decode cc pc = .ok (.lastore, 1)) (hs : qsh c = (4, k)) (hn : c < n) (hN : n ≤ 1000) (kk : qSnd C w nL n0 Qf fin n (pc + 1) t) : qSnd C w nL n0 Qf fin n pc (oWl c k t) := by
  intro lo st mm r hr hF H ls locs a2 a3 a4
  unfold oWl at hr
  split at hr
  · rename_i x i r1 s1
    obtain ⟨rfl, h1⟩ := qbeq hr
    obtain ⟨h2, h3⟩ := qbt h1
    have hX := qX_at (qOk_X h) hn hN
    obtain ⟨p, l, e, R, s, m, args, below, meth, cd⟩ := C
    obtain ⟨hx, hb, -, -, -, hK, -⟩ := h
    have he := qws_at (w := w) mm hn
    rw [hs, qent_4] at he
    rw [List.map_cons, List.map_cons, List.map_cons, hX]
    refine va_last hx hb hK a2 (qws_D w n mm) a3 r1 3 he rfl (inb_in h2) d (fun H1 locs1 b1 b2 b3 => ?_)
    refine kk lo _ _ r h3 hF H1 ls locs1 ?_ b3 a4
    rw [qws_set hn (qOff_sL mm r1 (ix i) x), hs, qent_4, gL_row, ix_d]
    exact b1
  · cases hr
theorem rAr {c k : Nat} {ok : Nat → Bool} (hok : ∀ q, ok q = true → q < 1000) (h : qOk C w own cc nL dp n0 n1) (d : decode cc pc = .ok (.aaload, 1)) (hs : qsh c = (5, k)) (hn : c < n) (hN : n ≤ 1000) (kk : qSnd C w nL n0 Qf fin n (pc + 1) t) : qSnd C w nL n0 Qf fin n pc (oAr c k ok t) := by
  intro lo st mm r hr hF H ls locs a2 a3 a4
  unfold oAr at hr
  split at hr
  · rename_i i r1 s1
    obtain ⟨rfl, h1⟩ := qbeq hr
    obtain ⟨h2, h3⟩ := qbt h1
    have hX := qX_at (qOk_X h) hn hN
    have hX2 := qOk_X h
    obtain ⟨p, l, e, R, s, m, args, below, meth, cd⟩ := C
    obtain ⟨hx, hb, -, -, -, hK, -⟩ := h
    have he := qws_at (w := w) mm hn
    rw [hs, qent_5] at he
    rw [List.map_cons, List.map_cons, hX]
    refine va_aldq hx hb hK a2 r1 4 he rfl (inb_in h2) d ?_
    rw [ix_d] at h3
    unfold qbN at h3
    split at h3
    · rename_i q hq
      obtain ⟨h4, h5⟩ := qbt h3
      have h6 := kk lo _ mm r h5 hF H ls locs a2 a3 a4
      rw [List.map_cons, show qcv w.2.1 (.ref q) = .ref (w.1 + q) from hX2 q (hok q h4)] at h6
      show W _ _ _ _ _ _ _ _ _ _ _ _ _ _ _ (F0 _ _ _ (va_rf ((gR mm r1 i.toNatClampNeg).map (w.1 + ·)) :: _))
      rw [hq]
      exact h6
    · rename_i hq
      have h6 := kk lo _ mm r h3 hF H ls locs a2 a3 a4
      show W _ _ _ _ _ _ _ _ _ _ _ _ _ _ _ (F0 _ _ _ (va_rf ((gR mm r1 i.toNatClampNeg).map (w.1 + ·)) :: _))
      rw [hq]
      exact h6
  · cases hr
theorem rWr {c k : Nat} {ok : Nat → Bool} (hok : ∀ q, ok q = true → q < n ∧ qsh q = (0, 5)) (h : qOk C w own cc nL dp n0 n1) (d : decode cc pc = .ok (.aastore, 1)) (hs : qsh c = (5, k)) (hn : c < n) (hN : n ≤ 1000) (hf : ∀ j, fin c j = none) (kk : qSnd C w nL n0 Qf fin n (pc + 1) t) : qSnd C w nL n0 Qf fin n pc (oWr c k ok t) := by
  intro lo st mm r hr hF H ls locs a2 a3 a4
  unfold oWr at hr
  split at hr
  · rename_i x i r1 s1
    obtain ⟨rfl, h1⟩ := qbeq hr
    obtain ⟨h2, h3⟩ := qbt h1
    obtain ⟨h4, h5⟩ := qbt h3
    obtain ⟨o1, o2⟩ := hok x h2
    have hX := qX_at (qOk_X h) hn hN
    have hX2 := qX_at (qOk_X h) o1 hN
    obtain ⟨p, l, e, R, s, m, args, below, meth, cd⟩ := C
    obtain ⟨hx, hb, -, -, -, hK, -⟩ := h
    have he := qws_at (w := w) mm hn
    rw [hs, qent_5] at he
    have he2 := qws_at (w := w) mm o1
    rw [o2] at he2
    rw [List.map_cons, List.map_cons, List.map_cons, hX, hX2]
    refine va_astq hx hb hK a2 (qws_D w n mm) a3 r1 4 x 5 he (show (qtys w.2.2.1)[4]? = some (w.2.2.1 5, .object RX5) from rfl) he2 (show qCL[5]? = some (RX5, TX5, 7) from rfl) (inb_in h4) d (fun H1 locs1 b1 b2 b3 => ?_)
    refine kk lo _ _ r h5 hF H1 ls locs1 ?_ b3 a4
    rw [qws_set hn (qOff_sR mm r1 (ix i) (some x)), hs, qent_5, gR_row, ix_d]
    exact b1
  · cases hr
theorem rAx {c k : Nat} {f : Nat → Int32} (hT : ∃ a, w.2.1 c = .ref a ∧ va_T .int a k (fun i => .int (f i)) (qAd w.1) (qSt C) (qSt C).heap) (h : qOk C w own cc nL dp n0 n1) (d : decode cc pc = .ok (.iaload, 1)) (kk : qSnd C w nL n0 Qf fin n (pc + 1) t) : qSnd C w nL n0 Qf fin n pc (oAx c k f t) := by
  intro lo st mm r hr hF H ls locs a2 a3 a4
  unfold oAx at hr
  split at hr
  · rename_i i r1 s1
    obtain ⟨rfl, h1⟩ := qbeq hr
    obtain ⟨h2, h3⟩ := qbt h1
    obtain ⟨a, hX, hT⟩ := hT
    obtain ⟨p, l, e, R, s, m, args, below, meth, cd⟩ := C
    obtain ⟨hx, hb, -⟩ := h
    rw [List.map_cons, List.map_cons, show qcv w.2.1 (.ref r1) = .ref a from hX]
    have h4 := kk lo _ mm r h3 hF H ls locs a2 a3 a4
    rw [ix_d] at h4
    exact va_ti hx hb hT a3 (inb_in h2) rfl d h4
  · cases hr
theorem rLen {c k : Nat} (h : qOk C w own cc nL dp n0 n1) (d : decode cc pc = .ok (.arraylength, 1)) (hs : qsh c = (1, k)) (hn : c < n) (hN : n ≤ 1000) (kk : qSnd C w nL n0 Qf fin n (pc + 1) t) : qSnd C w nL n0 Qf fin n pc (oLen c k t) := by
  intro lo st mm r hr hF H ls locs a2 a3 a4
  unfold oLen at hr
  split at hr
  · rename_i r1 s1
    obtain ⟨rfl, h1⟩ := qbeq hr
    have hX := qX_at (qOk_X h) hn hN
    obtain ⟨p, l, e, R, s, m, args, below, meth, cd⟩ := C
    obtain ⟨hx, hb, -, -, -, hK, -⟩ := h
    have he := qws_at (w := w) mm hn
    rw [hs, qent_1] at he
    rw [List.map_cons, hX]
    exact va_alen hx hb hK a2 r1 0 he (show (qtys w.2.2.1)[0]? = some (w.2.2.1 1, .int) from rfl) rfl d (kk lo _ mm r h1 hF H ls locs a2 a3 a4)
  · cases hr
theorem aAdd (h : qOk C w own cc nL dp n0 n1) (d : decode cc pc = .ok (.iadd, 1)) (kk : qSnd C w nL n0 Qf fin n (pc + 1) t) : qSnd C w nL n0 Qf fin n pc (o2 (· + ·) t) := by
  intro lo st mm r hr hF H ls locs a2 a3 a4
  obtain ⟨x, y, t', rfl, h1⟩ := q2_some hr
  obtain ⟨p, l, e, R, s, m, args, below, meth, cd⟩ := C
  exact lv_iadd h.1 h.2.1 d (kk lo _ mm r h1 hF H ls locs a2 a3 a4)
theorem aSub (h : qOk C w own cc nL dp n0 n1) (d : decode cc pc = .ok (.isub, 1)) (kk : qSnd C w nL n0 Qf fin n (pc + 1) t) : qSnd C w nL n0 Qf fin n pc (o2 (· - ·) t) := by
  intro lo st mm r hr hF H ls locs a2 a3 a4
  obtain ⟨x, y, t', rfl, h1⟩ := q2_some hr
  obtain ⟨p, l, e, R, s, m, args, below, meth, cd⟩ := C
  exact lv_isub h.1 h.2.1 d (kk lo _ mm r h1 hF H ls locs a2 a3 a4)
theorem aMul (h : qOk C w own cc nL dp n0 n1) (d : decode cc pc = .ok (.imul, 1)) (kk : qSnd C w nL n0 Qf fin n (pc + 1) t) : qSnd C w nL n0 Qf fin n pc (o2 (· * ·) t) := by
  intro lo st mm r hr hF H ls locs a2 a3 a4
  obtain ⟨x, y, t', rfl, h1⟩ := q2_some hr
  obtain ⟨p, l, e, R, s, m, args, below, meth, cd⟩ := C
  exact lv_imul h.1 h.2.1 d (kk lo _ mm r h1 hF H ls locs a2 a3 a4)
theorem aAnd (h : qOk C w own cc nL dp n0 n1) (d : decode cc pc = .ok (.iand, 1)) (kk : qSnd C w nL n0 Qf fin n (pc + 1) t) : qSnd C w nL n0 Qf fin n pc (o2 (· &&& ·) t) := by
  intro lo st mm r hr hF H ls locs a2 a3 a4
  obtain ⟨x, y, t', rfl, h1⟩ := q2_some hr
  obtain ⟨p, l, e, R, s, m, args, below, meth, cd⟩ := C
  exact lv_iand h.1 h.2.1 d (kk lo _ mm r h1 hF H ls locs a2 a3 a4)
theorem aOr (h : qOk C w own cc nL dp n0 n1) (d : decode cc pc = .ok (.ior, 1)) (kk : qSnd C w nL n0 Qf fin n (pc + 1) t) : qSnd C w nL n0 Qf fin n pc (o2 (· ||| ·) t) := by
  intro lo st mm r hr hF H ls locs a2 a3 a4
  obtain ⟨x, y, t', rfl, h1⟩ := q2_some hr
  obtain ⟨p, l, e, R, s, m, args, below, meth, cd⟩ := C
  exact lv_ior h.1 h.2.1 d (kk lo _ mm r h1 hF H ls locs a2 a3 a4)
theorem aXor (h : qOk C w own cc nL dp n0 n1) (d : decode cc pc = .ok (.ixor, 1)) (kk : qSnd C w nL n0 Qf fin n (pc + 1) t) : qSnd C w nL n0 Qf fin n pc (o2 (· ^^^ ·) t) := by
  intro lo st mm r hr hF H ls locs a2 a3 a4
  obtain ⟨x, y, t', rfl, h1⟩ := q2_some hr
  obtain ⟨p, l, e, R, s, m, args, below, meth, cd⟩ := C
  exact lv_ixor h.1 h.2.1 d (kk lo _ mm r h1 hF H ls locs a2 a3 a4)
theorem aShl (h : qOk C w own cc nL dp n0 n1) (d : decode cc pc = .ok (.ishl, 1)) (kk : qSnd C w nL n0 Qf fin n (pc + 1) t) : qSnd C w nL n0 Qf fin n pc (o2 (fun x y => x <<< (y &&& 31)) t) := by
  intro lo st mm r hr hF H ls locs a2 a3 a4
  obtain ⟨x, y, t', rfl, h1⟩ := q2_some hr
  obtain ⟨p, l, e, R, s, m, args, below, meth, cd⟩ := C
  exact lv_ishl h.1 h.2.1 d (kk lo _ mm r h1 hF H ls locs a2 a3 a4)
theorem aShr (h : qOk C w own cc nL dp n0 n1) (d : decode cc pc = .ok (.ishr, 1)) (kk : qSnd C w nL n0 Qf fin n (pc + 1) t) : qSnd C w nL n0 Qf fin n pc (o2 (fun x y => x >>> (y &&& 31)) t) := by
  intro lo st mm r hr hF H ls locs a2 a3 a4
  obtain ⟨x, y, t', rfl, h1⟩ := q2_some hr
  obtain ⟨p, l, e, R, s, m, args, below, meth, cd⟩ := C
  exact lv_ishr h.1 h.2.1 d (kk lo _ mm r h1 hF H ls locs a2 a3 a4)
theorem aUshr (h : qOk C w own cc nL dp n0 n1) (d : decode cc pc = .ok (.iushr, 1)) (kk : qSnd C w nL n0 Qf fin n (pc + 1) t) : qSnd C w nL n0 Qf fin n pc (o2 (fun x y => (x.toUInt32 >>> (y.toUInt32 &&& Int32.toUInt32 31)).toInt32) t) := by
  intro lo st mm r hr hF H ls locs a2 a3 a4
  obtain ⟨x, y, t', rfl, h1⟩ := q2_some hr
  obtain ⟨p, l, e, R, s, m, args, below, meth, cd⟩ := C
  exact lv_iushr h.1 h.2.1 d rfl (kk lo _ mm r h1 hF H ls locs a2 a3 a4)
theorem aNeg (h : qOk C w own cc nL dp n0 n1) (d : decode cc pc = .ok (.ineg, 1)) (kk : qSnd C w nL n0 Qf fin n (pc + 1) t) : qSnd C w nL n0 Qf fin n pc (o1 (-·) t) := by
  intro lo st mm r hr hF H ls locs a2 a3 a4
  obtain ⟨x, t', rfl, h1⟩ := q1_some hr
  obtain ⟨p, l, e, R, s, m, args, below, meth, cd⟩ := C
  exact lv_ineg h.1 h.2.1 d (kk lo _ mm r h1 hF H ls locs a2 a3 a4)
theorem aI2b (h : qOk C w own cc nL dp n0 n1) (d : decode cc pc = .ok (.i2b, 1)) (kk : qSnd C w nL n0 Qf fin n (pc + 1) t) : qSnd C w nL n0 Qf fin n pc (o1 (fun x => x.toInt8.toInt32) t) := by
  intro lo st mm r hr hF H ls locs a2 a3 a4
  obtain ⟨x, t', rfl, h1⟩ := q1_some hr
  obtain ⟨p, l, e, R, s, m, args, below, meth, cd⟩ := C
  exact lv_i2b h.1 h.2.1 d rfl (kk lo _ mm r h1 hF H ls locs a2 a3 a4)
theorem aLadd (h : qOk C w own cc nL dp n0 n1) (d : decode cc pc = .ok (.ladd, 1)) (kk : qSnd C w nL n0 Qf fin n (pc + 1) t) : qSnd C w nL n0 Qf fin n pc (oJJ (· + ·) t) := by
  intro lo st mm r hr hF H ls locs a2 a3 a4
  obtain ⟨x, y, t', rfl, h1⟩ := qJJ_some hr
  obtain ⟨p, l, e, R, s, m, args, below, meth, cd⟩ := C
  exact lv_ladd h.1 h.2.1 d (kk lo _ mm r h1 hF H ls locs a2 a3 a4)
theorem aLsub (h : qOk C w own cc nL dp n0 n1) (d : decode cc pc = .ok (.lsub, 1)) (kk : qSnd C w nL n0 Qf fin n (pc + 1) t) : qSnd C w nL n0 Qf fin n pc (oJJ (· - ·) t) := by
  intro lo st mm r hr hF H ls locs a2 a3 a4
  obtain ⟨x, y, t', rfl, h1⟩ := qJJ_some hr
  obtain ⟨p, l, e, R, s, m, args, below, meth, cd⟩ := C
  exact lv_lsub h.1 h.2.1 d (kk lo _ mm r h1 hF H ls locs a2 a3 a4)
theorem aLmul (h : qOk C w own cc nL dp n0 n1) (d : decode cc pc = .ok (.lmul, 1)) (kk : qSnd C w nL n0 Qf fin n (pc + 1) t) : qSnd C w nL n0 Qf fin n pc (oJJ (· * ·) t) := by
  intro lo st mm r hr hF H ls locs a2 a3 a4
  obtain ⟨x, y, t', rfl, h1⟩ := qJJ_some hr
  obtain ⟨p, l, e, R, s, m, args, below, meth, cd⟩ := C
  exact lv_lmul h.1 h.2.1 d (kk lo _ mm r h1 hF H ls locs a2 a3 a4)
theorem aLcmp (h : qOk C w own cc nL dp n0 n1) (d : decode cc pc = .ok (.lcmp, 1)) (kk : qSnd C w nL n0 Qf fin n (pc + 1) t) : qSnd C w nL n0 Qf fin n pc (oLcmp t) := by
  intro lo st mm r hr hF H ls locs a2 a3 a4
  obtain ⟨x, y, t', rfl, h1⟩ := qJJ_some hr
  obtain ⟨p, l, e, R, s, m, args, below, meth, cd⟩ := C
  exact W.lcmp h.1 h.2.1 d (kk lo _ mm r h1 hF H ls locs a2 a3 a4)
theorem aI2l (h : qOk C w own cc nL dp n0 n1) (d : decode cc pc = .ok (.i2l, 1)) (kk : qSnd C w nL n0 Qf fin n (pc + 1) t) : qSnd C w nL n0 Qf fin n pc (oI2l t) := by
  intro lo st mm r hr hF H ls locs a2 a3 a4
  obtain ⟨x, t', rfl, h1⟩ := q1_some hr
  obtain ⟨p, l, e, R, s, m, args, below, meth, cd⟩ := C
  exact lv_i2l h.1 h.2.1 d rfl (kk lo _ mm r h1 hF H ls locs a2 a3 a4)
theorem aLshl (h : qOk C w own cc nL dp n0 n1) (d : decode cc pc = .ok (.lshl, 1)) (kk : qSnd C w nL n0 Qf fin n (pc + 1) t) : qSnd C w nL n0 Qf fin n pc (oLshl t) := by
  intro lo st mm r hr hF H ls locs a2 a3 a4
  unfold oLshl at hr
  split at hr
  · obtain ⟨p, l, e, R, s, m, args, below, meth, cd⟩ := C
    exact lv_lshl h.1 h.2.1 d rfl (kk lo _ mm r hr hF H ls locs a2 a3 a4)
  · cases hr
theorem aDiv (h : qOk C w own cc nL dp n0 n1) (d : decode cc pc = .ok (.idiv, 1)) (kk : qSnd C w nL n0 Qf fin n (pc + 1) t) : qSnd C w nL n0 Qf fin n pc (oDiv t) := by
  intro lo st mm r hr hF H ls locs a2 a3 a4
  obtain ⟨x, y, t', rfl, h1⟩ := q2_some hr
  obtain ⟨h2, h3⟩ := qbf h1
  rw [eqb_d] at h2
  obtain ⟨p, l, e, R, s, m, args, below, meth, cd⟩ := C
  exact lv_idiv h.1 h.2.1 d (of_decide_eq_false h2) (kk lo _ mm r h3 hF H ls locs a2 a3 a4)
theorem aDup (h : qOk C w own cc nL dp n0 n1) (d : decode cc pc = .ok (.dup, 1)) (kk : qSnd C w nL n0 Qf fin n (pc + 1) t) : qSnd C w nL n0 Qf fin n pc (oDup t) := by
  intro lo st mm r hr hF H ls locs a2 a3 a4
  have hX := qOk_Xr h
  unfold oDup at hr
  obtain ⟨p, l, e, R, s, m, args, below, meth, cd⟩ := C
  split at hr
  · exact lv_dup h.1 h.2.1 d (qcv_cat hX _) (kk lo _ mm r hr hF H ls locs a2 a3 a4)
  · exact lv_dup h.1 h.2.1 d (qcv_cat hX _) (kk lo _ mm r hr hF H ls locs a2 a3 a4)
  · cases hr
theorem aDup2 (h : qOk C w own cc nL dp n0 n1) (d : decode cc pc = .ok (.dup2, 1)) (kk : qSnd C w nL n0 Qf fin n (pc + 1) t) : qSnd C w nL n0 Qf fin n pc (oDup2 t) := by
  intro lo st mm r hr hF H ls locs a2 a3 a4
  have hX := qOk_Xr h
  unfold oDup2 at hr
  obtain ⟨p, l, e, R, s, m, args, below, meth, cd⟩ := C
  split at hr
  · exact lv_dup2_11 h.1 h.2.1 d (qcv_cat hX _) (qcv_cat hX _) (kk lo _ mm r hr hF H ls locs a2 a3 a4)
  · cases hr
theorem aPop (h : qOk C w own cc nL dp n0 n1) (d : decode cc pc = .ok (.pop, 1)) (kk : qSnd C w nL n0 Qf fin n (pc + 1) t) : qSnd C w nL n0 Qf fin n pc (oPop t) := by
  intro lo st mm r hr hF H ls locs a2 a3 a4
  have hX := qOk_Xr h
  unfold oPop at hr
  obtain ⟨p, l, e, R, s, m, args, below, meth, cd⟩ := C
  split at hr
  · exact lv_pop h.1 h.2.1 d (qcv_cat hX _) (kk lo _ mm r hr hF H ls locs a2 a3 a4)
  · exact lv_pop h.1 h.2.1 d (qcv_cat hX _) (kk lo _ mm r hr hF H ls locs a2 a3 a4)
  · cases hr
theorem aNull (h : qOk C w own cc nL dp n0 n1) (d : decode cc pc = .ok (.aconst_null, 1)) (kk : qSnd C w nL n0 Qf fin n (pc + 1) t) : qSnd C w nL n0 Qf fin n pc (oC .null t) := by
  intro lo st mm r hr hF H ls locs a2 a3 a4
  obtain ⟨p, l, e, R, s, m, args, below, meth, cd⟩ := C
  exact lv_null h.1 h.2.1 d (kk lo _ mm r hr hF H ls locs a2 a3 a4)
theorem jGo {off : Int} {tg : Nat} (h : qOk C w own cc nL dp n0 n1) (d : decode cc pc = .ok (.goto off, 3)) (ht : (pc : Int) + off = (tg : Int)) (kk : qSnd C w nL n0 Qf fin n tg t) : qSnd C w nL n0 Qf fin n pc t := by
  intro lo st mm r hr hF H ls locs a2 a3 a4
  obtain ⟨p, l, e, R, s, m, args, below, meth, cd⟩ := C
  exact lv_goto h.1 h.2.1 d ht (kk lo _ mm r hr hF H ls locs a2 a3 a4)
theorem jEq {f : qT ρ} {off : Int} {tg : Nat} (h : qOk C w own cc nL dp n0 n1) (d : decode cc pc = .ok (.ifCond .eq off, 3)) (ht : (pc : Int) + off = (tg : Int)) (kt : qSnd C w nL n0 Qf fin n tg t) (kf : qSnd C w nL n0 Qf fin n (pc + 3) f) : qSnd C w nL n0 Qf fin n pc (oEq t f) := by
  intro lo st mm r hr hF H ls locs a2 a3 a4
  obtain ⟨x, t', rfl, h1⟩ := q1_some hr
  obtain ⟨p, l, e, R, s, m, args, below, meth, cd⟩ := C
  rw [eqb_d] at h1
  refine lv_if_eq h.1 h.2.1 d ht (fun hp => ?_) (fun hp => ?_)
  · exact kt lo _ mm r (by simpa [hp] using h1) hF H ls locs a2 a3 a4
  · exact kf lo _ mm r (by simpa [hp] using h1) hF H ls locs a2 a3 a4
theorem jCEq {f : qT ρ} {off : Int} {tg : Nat} (h : qOk C w own cc nL dp n0 n1) (d : decode cc pc = .ok (.if_icmp .eq off, 3)) (ht : (pc : Int) + off = (tg : Int)) (kt : qSnd C w nL n0 Qf fin n tg t) (kf : qSnd C w nL n0 Qf fin n (pc + 3) f) : qSnd C w nL n0 Qf fin n pc (oCEq t f) := by
  intro lo st mm r hr hF H ls locs a2 a3 a4
  obtain ⟨x, y, t', rfl, h1⟩ := q2_some hr
  obtain ⟨p, l, e, R, s, m, args, below, meth, cd⟩ := C
  rw [eqb_d] at h1
  refine lv_icmp_eq h.1 h.2.1 d ht (fun hp => ?_) (fun hp => ?_)
  · exact kt lo _ mm r (by simpa [hp] using h1) hF H ls locs a2 a3 a4
  · exact kf lo _ mm r (by simpa [hp] using h1) hF H ls locs a2 a3 a4
theorem jNe {f : qT ρ} {off : Int} {tg : Nat} (h : qOk C w own cc nL dp n0 n1) (d : decode cc pc = .ok (.ifCond .ne off, 3)) (ht : (pc : Int) + off = (tg : Int)) (kt : qSnd C w nL n0 Qf fin n tg t) (kf : qSnd C w nL n0 Qf fin n (pc + 3) f) : qSnd C w nL n0 Qf fin n pc (oEq f t) := by
  intro lo st mm r hr hF H ls locs a2 a3 a4
  obtain ⟨x, t', rfl, h1⟩ := q1_some hr
  obtain ⟨p, l, e, R, s, m, args, below, meth, cd⟩ := C
  rw [eqb_d] at h1
  refine lv_if_ne h.1 h.2.1 d ht (fun hp => ?_) (fun hp => ?_)
  · exact kt lo _ mm r (by simpa [hp] using h1) hF H ls locs a2 a3 a4
  · exact kf lo _ mm r (by simpa [hp] using h1) hF H ls locs a2 a3 a4
theorem jCNe {f : qT ρ} {off : Int} {tg : Nat} (h : qOk C w own cc nL dp n0 n1) (d : decode cc pc = .ok (.if_icmp .ne off, 3)) (ht : (pc : Int) + off = (tg : Int)) (kt : qSnd C w nL n0 Qf fin n tg t) (kf : qSnd C w nL n0 Qf fin n (pc + 3) f) : qSnd C w nL n0 Qf fin n pc (oCEq f t) := by
  intro lo st mm r hr hF H ls locs a2 a3 a4
  obtain ⟨x, y, t', rfl, h1⟩ := q2_some hr
  obtain ⟨p, l, e, R, s, m, args, below, meth, cd⟩ := C
  rw [eqb_d] at h1
  refine lv_icmp_ne h.1 h.2.1 d ht (fun hp => ?_) (fun hp => ?_)
  · exact kt lo _ mm r (by simpa [hp] using h1) hF H ls locs a2 a3 a4
  · exact kf lo _ mm r (by simpa [hp] using h1) hF H ls locs a2 a3 a4
theorem jLt {f : qT ρ} {off : Int} {tg : Nat} (h : qOk C w own cc nL dp n0 n1) (d : decode cc pc = .ok (.ifCond .lt off, 3)) (ht : (pc : Int) + off = (tg : Int)) (kt : qSnd C w nL n0 Qf fin n tg t) (kf : qSnd C w nL n0 Qf fin n (pc + 3) f) : qSnd C w nL n0 Qf fin n pc (oLt t f) := by
  intro lo st mm r hr hF H ls locs a2 a3 a4
  obtain ⟨x, t', rfl, h1⟩ := q1_some hr
  obtain ⟨p, l, e, R, s, m, args, below, meth, cd⟩ := C
  rw [ltb_d] at h1
  refine lv_if_lt h.1 h.2.1 d ht (fun hp => ?_) (fun hp => ?_)
  · exact kt lo _ mm r (by simpa [hp] using h1) hF H ls locs a2 a3 a4
  · exact kf lo _ mm r (by simpa [hp] using h1) hF H ls locs a2 a3 a4
theorem jCLt {f : qT ρ} {off : Int} {tg : Nat} (h : qOk C w own cc nL dp n0 n1) (d : decode cc pc = .ok (.if_icmp .lt off, 3)) (ht : (pc : Int) + off = (tg : Int)) (kt : qSnd C w nL n0 Qf fin n tg t) (kf : qSnd C w nL n0 Qf fin n (pc + 3) f) : qSnd C w nL n0 Qf fin n pc (oCLt t f) := by
  intro lo st mm r hr hF H ls locs a2 a3 a4
  obtain ⟨x, y, t', rfl, h1⟩ := q2_some hr
  obtain ⟨p, l, e, R, s, m, args, below, meth, cd⟩ := C
  rw [ltb_d] at h1
  refine lv_icmp_lt h.1 h.2.1 d ht (fun hp => ?_) (fun hp => ?_)
  · exact kt lo _ mm r (by simpa [hp] using h1) hF H ls locs a2 a3 a4
  · exact kf lo _ mm r (by simpa [hp] using h1) hF H ls locs a2 a3 a4
theorem jGe {f : qT ρ} {off : Int} {tg : Nat} (h : qOk C w own cc nL dp n0 n1) (d : decode cc pc = .ok (.ifCond .ge off, 3)) (ht : (pc : Int) + off = (tg : Int)) (kt : qSnd C w nL n0 Qf fin n tg t) (kf : qSnd C w nL n0 Qf fin n (pc + 3) f) : qSnd C w nL n0 Qf fin n pc (oGe t f) := by
  intro lo st mm r hr hF H ls locs a2 a3 a4
  obtain ⟨x, t', rfl, h1⟩ := q1_some hr
  obtain ⟨p, l, e, R, s, m, args, below, meth, cd⟩ := C
  rw [leb_d] at h1
  refine lv_if_ge h.1 h.2.1 d ht (fun hp => ?_) (fun hp => ?_)
  · exact kt lo _ mm r (by simpa [hp] using h1) hF H ls locs a2 a3 a4
  · exact kf lo _ mm r (by simpa [hp] using h1) hF H ls locs a2 a3 a4
theorem jCGe {f : qT ρ} {off : Int} {tg : Nat} (h : qOk C w own cc nL dp n0 n1) (d : decode cc pc = .ok (.if_icmp .ge off, 3)) (ht : (pc : Int) + off = (tg : Int)) (kt : qSnd C w nL n0 Qf fin n tg t) (kf : qSnd C w nL n0 Qf fin n (pc + 3) f) : qSnd C w nL n0 Qf fin n pc (oCGe t f) := by
  intro lo st mm r hr hF H ls locs a2 a3 a4
  obtain ⟨x, y, t', rfl, h1⟩ := q2_some hr
  obtain ⟨p, l, e, R, s, m, args, below, meth, cd⟩ := C
  rw [leb_d] at h1
  refine lv_icmp_ge h.1 h.2.1 d ht (fun hp => ?_) (fun hp => ?_)
  · exact kt lo _ mm r (by simpa [hp] using h1) hF H ls locs a2 a3 a4
  · exact kf lo _ mm r (by simpa [hp] using h1) hF H ls locs a2 a3 a4
theorem jGt {f : qT ρ} {off : Int} {tg : Nat} (h : qOk C w own cc nL dp n0 n1) (d : decode cc pc = .ok (.ifCond .gt off, 3)) (ht : (pc : Int) + off = (tg : Int)) (kt : qSnd C w nL n0 Qf fin n tg t) (kf : qSnd C w nL n0 Qf fin n (pc + 3) f) : qSnd C w nL n0 Qf fin n pc (oGt t f) := by
  intro lo st mm r hr hF H ls locs a2 a3 a4
  obtain ⟨x, t', rfl, h1⟩ := q1_some hr
  obtain ⟨p, l, e, R, s, m, args, below, meth, cd⟩ := C
  rw [ltb_d] at h1
  refine lv_if_gt h.1 h.2.1 d ht (fun hp => ?_) (fun hp => ?_)
  · exact kt lo _ mm r (by simpa [hp] using h1) hF H ls locs a2 a3 a4
  · exact kf lo _ mm r (by simpa [hp] using h1) hF H ls locs a2 a3 a4
theorem jCGt {f : qT ρ} {off : Int} {tg : Nat} (h : qOk C w own cc nL dp n0 n1) (d : decode cc pc = .ok (.if_icmp .gt off, 3)) (ht : (pc : Int) + off = (tg : Int)) (kt : qSnd C w nL n0 Qf fin n tg t) (kf : qSnd C w nL n0 Qf fin n (pc + 3) f) : qSnd C w nL n0 Qf fin n pc (oCGt t f) := by
  intro lo st mm r hr hF H ls locs a2 a3 a4
  obtain ⟨x, y, t', rfl, h1⟩ := q2_some hr
  obtain ⟨p, l, e, R, s, m, args, below, meth, cd⟩ := C
  rw [ltb_d] at h1
  refine lv_icmp_gt h.1 h.2.1 d ht (fun hp => ?_) (fun hp => ?_)
  · exact kt lo _ mm r (by simpa [hp] using h1) hF H ls locs a2 a3 a4
  · exact kf lo _ mm r (by simpa [hp] using h1) hF H ls locs a2 a3 a4
theorem jLe {f : qT ρ} {off : Int} {tg : Nat} (h : qOk C w own cc nL dp n0 n1) (d : decode cc pc = .ok (.ifCond .le off, 3)) (ht : (pc : Int) + off = (tg : Int)) (kt : qSnd C w nL n0 Qf fin n tg t) (kf : qSnd C w nL n0 Qf fin n (pc + 3) f) : qSnd C w nL n0 Qf fin n pc (oLe t f) := by
  intro lo st mm r hr hF H ls locs a2 a3 a4
  obtain ⟨x, t', rfl, h1⟩ := q1_some hr
  obtain ⟨p, l, e, R, s, m, args, below, meth, cd⟩ := C
  rw [leb_d] at h1
  refine lv_if_le h.1 h.2.1 d ht (fun hp => ?_) (fun hp => ?_)
  · exact kt lo _ mm r (by simpa [hp] using h1) hF H ls locs a2 a3 a4
  · exact kf lo _ mm r (by simpa [hp] using h1) hF H ls locs a2 a3 a4
theorem jCLe {f : qT ρ} {off : Int} {tg : Nat} (h : qOk C w own cc nL dp n0 n1) (d : decode cc pc = .ok (.if_icmp .le off, 3)) (ht : (pc : Int) + off = (tg : Int)) (kt : qSnd C w nL n0 Qf fin n tg t) (kf : qSnd C w nL n0 Qf fin n (pc + 3) f) : qSnd C w nL n0 Qf fin n pc (oCLe t f) := by
  intro lo st mm r hr hF H ls locs a2 a3 a4
  obtain ⟨x, y, t', rfl, h1⟩ := q2_some hr
  obtain ⟨p, l, e, R, s, m, args, below, meth, cd⟩ := C
  rw [leb_d] at h1
  refine lv_icmp_le h.1 h.2.1 d ht (fun hp => ?_) (fun hp => ?_)
  · exact kt lo _ mm r (by simpa [hp] using h1) hF H ls locs a2 a3 a4
  · exact kf lo _ mm r (by simpa [hp] using h1) hF H ls locs a2 a3 a4
end
