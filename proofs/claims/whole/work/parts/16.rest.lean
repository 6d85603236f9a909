/-! what is left of the operations: constants of the pool, statics, switches, new things, copies -/
section
variable {ρ : Type} {C : qCx} {w : qWp} {own : String} {cc : ByteArray} {nL dp n0 n1 : Nat} {Qf : ρ → State → Prop} {fin : Nat → Nat → Option Nat} {n pc : Nat} {t : qT ρ}
theorem cK {v : Int32} {ix : Nat} (h : qOk C w own cc nL dp n0 n1) (d : decode cc pc = .ok (.ldc ix, 2)) (hl : Jvm.Cond.constant own ix v ∈ qTw) (k : qSnd C w nL n0 Qf fin n (pc + 2) t) : qSnd C w nL n0 Qf fin n pc (oC (.int v) t) := by
  intro lo st mm r hr hF H ls locs a2 a3 a4
  obtain ⟨p, l, e, R, s, m, args, below, meth, c⟩ := C
  exact lv_ldc h.1 h.2.1 h.2.2.2.1 (h.2.2.2.2.1 _ hl) d (k lo _ mm r hr hF H ls locs a2 a3 a4)
theorem cKw {v : Int32} {ix : Nat} (h : qOk C w own cc nL dp n0 n1) (d : decode cc pc = .ok (.ldc_w ix, 3)) (hl : Jvm.Cond.constant own ix v ∈ qTw) (k : qSnd C w nL n0 Qf fin n (pc + 3) t) : qSnd C w nL n0 Qf fin n pc (oC (.int v) t) := by
  intro lo st mm r hr hF H ls locs a2 a3 a4
  obtain ⟨p, l, e, R, s, m, args, below, meth, c⟩ := C
  exact lv_ldcw h.1 h.2.1 h.2.2.2.1 (h.2.2.2.2.1 _ hl) d (k lo _ mm r hr hF H ls locs a2 a3 a4)
theorem cKJ {v : Int64} {ix : Nat} (h : qOk C w own cc nL dp n0 n1) (d : decode cc pc = .ok (.ldc2_w ix, 3)) (hl : Jvm.Cond.constantLong own ix v ∈ qTw) (k : qSnd C w nL n0 Qf fin n (pc + 3) t) : qSnd C w nL n0 Qf fin n pc (oC (.long v) t) := by
  intro lo st mm r hr hF H ls locs a2 a3 a4
  obtain ⟨p, l, e, R, s, m, args, below, meth, c⟩ := C
  exact lv_ldc2 h.1 h.2.1 h.2.2.2.1 (h.2.2.2.2.1 _ hl) d (k lo _ mm r hr hF H ls locs a2 a3 a4)
theorem cStr {ix a : Nat} {tx : String} (h : qOk C w own cc nL dp n0 n1) (d : decode cc pc = .ok (.ldc ix, 2)) (hl : (own, ix, tx, a) ∈ qStr) (k : qSnd C w nL n0 Qf fin n (pc + 2) t) : qSnd C w nL n0 Qf fin n pc (oC (.ref a) t) := by
  intro lo st mm r hr hF H ls locs a2 a3 a4
  obtain ⟨p, l, e, R, s, m, args, below, meth, c⟩ := C
  obtain ⟨q, k1, k2⟩ := h.2.2.2.2.2.2.2.2.2.2.2.2.2.2.2.2.2.2.2.2.2.2.1 _ hl
  have kk := k lo _ mm r hr hF H ls locs a2 a3 a4
  rw [List.map_cons, show qcv w.2.1 (.ref a) = .ref q from k1] at kk
  exact va_ldcS h.1 h.2.1 h.2.2.2.1 k2 d kk
theorem qOk_G (h : qOk C w own cc nL dp n0 n1) : qGl w (qSt C) (qSt C).heap := by
  obtain ⟨p, l, e, R, s, m, args, below, meth, c⟩ := C
  exact h.2.2.2.2.2.2.2.2.2.2.2.2.2
theorem cGs {ix a : Nat} {Cn nm ds : String} (h : qOk C w own cc nL dp n0 n1) (d : decode cc pc = .ok (.getstatic ix, 3)) (hl : Jvm.Cond.fieldLink own ix Cn nm ds ∈ qTw) (hZ : va_Z Cn nm ds (w.2.1 a) (qAd w.1) (qSt C) (qSt C).heap) (k : qSnd C w nL n0 Qf fin n (pc + 3) t) : qSnd C w nL n0 Qf fin n pc (oC (.ref a) t) := by
  intro lo st mm r hr hF H ls locs a2 a3 a4
  obtain ⟨p, l, e, R, s, m, args, below, meth, c⟩ := C
  exact va_gets h.1 h.2.1 hZ a3 h.2.2.2.1 (h.2.2.2.2.1 _ hl) (fun _ h9 => h9) d (k lo _ mm r hr hF H ls locs a2 a3 a4)
theorem cGsN {ix a : Nat} {Cn nm ds host : String} (h : qOk C w own cc nL dp n0 n1) (d : decode cc pc = .ok (.getstatic ix, 3)) (hl : Jvm.Cond.fieldLinkNest own ix Cn nm ds host ∈ qTw) (hZ : va_Z Cn nm ds (w.2.1 a) (qAd w.1) (qSt C) (qSt C).heap) (k : qSnd C w nL n0 Qf fin n (pc + 3) t) : qSnd C w nL n0 Qf fin n pc (oC (.ref a) t) := by
  intro lo st mm r hr hF H ls locs a2 a3 a4
  obtain ⟨p, l, e, R, s, m, args, below, meth, c⟩ := C
  exact va_getsN h.1 h.2.1 hZ a3 h.2.2.2.1 (h.2.2.2.2.1 _ hl) (fun _ h9 => h9) d (k lo _ mm r hr hF H ls locs a2 a3 a4)
theorem jNull {f : qT ρ} {off : Int} {tg : Nat} (h : qOk C w own cc nL dp n0 n1) (d : decode cc pc = .ok (.ifnull off, 3)) (ht : (pc : Int) + off = (tg : Int)) (kt : qSnd C w nL n0 Qf fin n tg t) (kf : qSnd C w nL n0 Qf fin n (pc + 3) f) : qSnd C w nL n0 Qf fin n pc (oNull t f) := by
  intro lo st m r hr hF H ls locs a2 a3 a4
  have hX := qOk_X h
  unfold oNull at hr
  split at hr
  · obtain ⟨p, l, e, R, s, mi, args, below, meth, c⟩ := C
    exact lv_ifnullN h.1 h.2.1 d ht (kt lo _ m r hr hF H ls locs a2 a3 a4)
  · rename_i q r1
    obtain ⟨h1, h2⟩ := qbt hr
    rw [List.map_cons, show qcv w.2.1 (.ref q) = .ref (w.1 + q) from hX q (by simpa [Nat.blt_eq] using h1)]
    obtain ⟨p, l, e, R, s, mi, args, below, meth, c⟩ := C
    exact lv_ifnull h.1 h.2.1 d (kf lo _ m r h2 hF H ls locs a2 a3 a4)
  · cases hr
/-- a switch's targets, one behind another -/
def qTgs (C : qCx) (w : qWp) (nL n0 : Nat) (Qf : ρ → State → Prop) (fin : Nat → Nat → Option Nat) (n pc : Nat) : List Int → List (qT ρ) → Prop
  | [], [] => True
  | o :: os, t :: ts => (∃ tg : Nat, (pc : Int) + o = (tg : Int) ∧ qSnd C w nL n0 Qf fin n tg t) ∧ qTgs C w nL n0 Qf fin n pc os ts
  | _, _ => False
theorem qTgs_len : ∀ (os : List Int) (ts : List (qT ρ)), qTgs C w nL n0 Qf fin n pc os ts → os.length = ts.length
  | [], [], _ => rfl
  | o :: os, t :: ts, h => by simp [qTgs_len os ts h.2]
  | [], _ :: _, h => h.elim
  | _ :: _, [], h => h.elim
theorem qTgs_at : ∀ (os : List Int) (ts : List (qT ρ)), qTgs C w nL n0 Qf fin n pc os ts → ∀ (i : Nat) (t : qT ρ), ts[i]? = some t → ∃ (o : Int) (tg : Nat), os[i]? = some o ∧ (pc : Int) + o = (tg : Int) ∧ qSnd C w nL n0 Qf fin n tg t
  | [], [], _, i, t, h => by simp at h
  | o :: os, t :: ts, h, 0, u, hu => by
    simp at hu
    subst hu
    obtain ⟨tg, h1, h2⟩ := h.1
    exact ⟨o, tg, rfl, h1, h2⟩
  | o :: os, t :: ts, h, i + 1, u, hu => by
    simp at hu
    obtain ⟨o', tg, h1, h2, h3⟩ := qTgs_at os ts h.2 i u hu
    exact ⟨o', tg, by simpa using h1, h2, h3⟩
  | [], _ :: _, h, _, _, _ => h.elim
  | _ :: _, [], h, _, _, _ => h.elim
theorem qsw_spec {x : Int32} {k : qT ρ → Option ρ} {dflt : qT ρ} {r : ρ} : ∀ (ts : List (qT ρ)) (a : Nat), a + ts.length < 2 ^ 31 → qsw x k dflt (nI a) ts = some r → (∃ i t, ts[i]? = some t ∧ x = nI (a + i) ∧ k t = some r) ∨ ((∀ i, i < ts.length → x ≠ nI (a + i)) ∧ k dflt = some r)
  | [], a, ha, h => Or.inr ⟨fun i hi => absurd hi (Nat.not_lt_zero i), h⟩
  | t :: ts, a, ha, h => by
    simp only [List.length_cons] at ha
    rw [qsw, eqb_d] at h
    by_cases e : x = nI a
    · left
      exact ⟨0, t, rfl, e, by simpa [e] using h⟩
    · have h1 : qsw x k dflt (nI (a + 1)) ts = some r := by
        rw [nI_succ]
        simpa [e] using h
      rcases qsw_spec ts (a + 1) (by omega) h1 with ⟨i, u, h2, h3, h4⟩ | ⟨h2, h3⟩
      · exact Or.inl ⟨i + 1, u, by simpa using h2, by rw [h3]; congr 1; omega, h4⟩
      · refine Or.inr ⟨fun i hi => ?_, h3⟩
        cases i with
        | zero => exact e
        | succ i =>
          have := h2 i (by simpa using hi)
          rwa [show a + (i + 1) = a + 1 + i by omega]
theorem jSw {ts : List (qT ρ)} {dflt lo0 hi0 : Int} {offs : Array Int} {len a tg : Nat} {v : Int32} (h : qOk C w own cc nL dp n0 n1) (d : decode cc pc = .ok (.tableswitch dflt lo0 hi0 offs, len)) (hv : v = nI a) (hlo : lo0 = (a : Int)) (hhi : hi0 + 1 = (a : Int) + offs.toList.length) (hb : a + offs.toList.length < 2 ^ 31) (ht : (pc : Int) + dflt = (tg : Int)) (kd : qSnd C w nL n0 Qf fin n tg t) (kt : qTgs C w nL n0 Qf fin n pc offs.toList ts) : qSnd C w nL n0 Qf fin n pc (oSw v t ts) := by
  intro lo st m r hr hF H ls locs a2 a3 a4
  obtain ⟨x, t', rfl, h1⟩ := q1_some hr
  have hlen := qTgs_len _ _ kt
  subst hv
  subst hlo
  rcases qsw_spec ts a (by omega) h1 with ⟨i, u, h2, h3, h4⟩ | ⟨h2, h3⟩
  · obtain ⟨o, tg', k1, k2, k3⟩ := qTgs_at _ _ kt i u h2
    have hi : i < offs.toList.length := (List.getElem?_eq_some_iff.mp k1).1
    have hx : x.toInt = ((a + i : Nat) : Int) := by rw [h3]; exact nI_toInt (by omega)
    obtain ⟨p, l, e, R, s, mi, args, below, meth, c⟩ := C
    refine lv_tableIn h.1 h.2.1 d (by rw [hx]; omega) (by rw [hx]; omega) (off := o) ?_ k2 (k3 lo _ m r h4 hF H ls locs a2 a3 a4)
    rw [hx, show ((a + i : Nat) : Int) - (a : Int) = (i : Int) by omega, Int.toNat_natCast, ← Array.getElem?_toList]
    exact k1
  · obtain ⟨p, l, e, R, s, mi, args, below, meth, c⟩ := C
    refine lv_tableOut h.1 h.2.1 d ?_ ht (kd lo _ m r h3 hF H ls locs a2 a3 a4)
    by_cases hx : x.toInt < (a : Int)
    · exact Or.inl hx
    · right
      apply Classical.byContradiction
      intro hn
      have h5 := h2 (x.toInt - a).toNat (by omega)
      apply h5
      apply Int32.toInt_inj.mp
      rw [nI_toInt (by omega)]
      omega
/-- the address of a new thing -/
theorem qnew_at {m : qM} {q : Nat} {e : va_E} (hD : va_D (qAd w.1) (qws w n m ++ [(q, e)])) (hq : q < w.1 + n + 1) : q = w.1 + n := by
  have h1 : (qws w n m ++ [(q, e)])[n]? = some (q, e) := by
    rw [List.getElem?_append_right (by rw [qws_len]; exact Nat.le_refl _), qws_len, Nat.sub_self]
    rfl
  have h2 : w.1 ≤ q := hD.2 n _ h1
  apply Classical.byContradiction
  intro hne
  have h3 : q - w.1 < n := by omega
  have h4 : (qws w n m ++ [(q, e)])[q - w.1]? = some (w.1 + (q - w.1), qent w.1 w.2.2.2.2.2 w.2.1 w.2.2.1 m (q - w.1) (qsh (q - w.1))) := by
    rw [List.getElem?_append_left (by rw [qws_len]; exact h3)]
    exact qws_at m h3
  have := hD.1 n (q - w.1) _ _ h1 h4 (by show q = w.1 + (q - w.1); omega)
  omega
theorem qfv_new {fn : Nat → Nat → Option Nat} {X : Nat → Value} {m : qM} {c k : Nat} {ty : FieldType} (hf : fn c k = none) (hk : qkd ty ≠ 4) : qfv fn X (qz m c) c k (qkd ty) = defaultValue ty := by
  cases ty <;> first | (simp [qkd, qfv, gI_qz, gL_qz, gR_qz, hf, defaultValue]; done) | (simp [qkd] at hk)
/-- the kinds of all fields are of the four that are known -/
def qK4 (ci : Nat) : Prop := ∀ t ∈ qft ci, t ≠ 4
theorem nNew {ix ci : Nat} {Cn : String} {N : Nat} (h : qOk C w own cc nL dp n0 n1) (d : decode cc pc = .ok (.new ix, 3)) (hq : qCk ci Cn N) (h4 : qK4 ci) (hs : qsh n = (0, ci)) (hl : Jvm.Cond.classLink own ix Cn ∈ qTw) (hi : Jvm.Cond.instantiable Cn N ∈ qTw) (hin : Jvm.Cond.initialized Cn ∈ qTw) (hn0 : n0 ≤ n) (hn : n + 1 ≤ n1) (hN : n < 1000) (hf : ∀ k, fin n k = none) (kk : qSnd C w nL n0 Qf fin (n + 1) (pc + 3) t) : qSnd C w nL n0 Qf fin n pc (oNew n t) := by
  intro lo st m r hr hF H ls locs a2 a3 a4
  have hX := qOk_X h
  have hsz : (qSt C).heap.size = w.1 + n0 := by obtain ⟨p, l, e, R, s, mi, args, below, meth, c⟩ := C; exact h.2.2.2.2.2.2.2.2.2.2.2.2.1
  obtain ⟨p, l, e, R, s, mi, args, below, meth, c⟩ := C
  obtain ⟨hx, hb, -, ho, hts, hK, -, -, hfr, hlo, hce, hsl, -⟩ := h
  have hlN : (qft ci).length = N := by rw [hq.2.2.2.2]; simp
  have hss : qss (n + 1) = qss n + N := by simp only [qss, hs]; simp [hlN]
  have e1 := qss_le hn0
  have e2 := qss_le hn
  have e3 := qss_le (Nat.le_succ n)
  refine va_new (D := (w.2.2.2.1, w.2.2.2.2.1)) (A := qAd w.1) (ws := qws w n m) (tys := qtys w.2.2.1) (cl := qCL) (ci := ci) (fs := qfl w.2.2.2.2.2 w.2.1 (qz m n) n 0 (qft ci)) hx hb hts hq.2.1 (qTY ci) hq.2.2.1 ho (hts _ hl) (hts _ hi) (hts _ hin) hK a2 (qws_D w n m) a3 (fun q hq2 => by show w.1 ≤ q; have := hsz; simp only [qSt] at this; omega) hq.1 ?_ (by show n - n0 + 1 ≤ R.cells; omega) (by show qss n - qss n0 + N ≤ R.slots; omega) d (fun q H1 b1 b2 b3 => ?_)
  · intro j hj
    have hk : (qft ci)[j]? = some (qkd (qTY ci j)) := by
      rw [hq.2.2.2.2, List.getElem?_map, List.getElem?_range hj]
      rfl
    have hg := qfl_get (fn := w.2.2.2.2.2) (X := w.2.1) (m := qz m n) (i := n) (qft ci) 0 j _ hk
    rw [Nat.zero_add] at hg
    rw [qfv_new (by rw [show w.2.2.2.2.2 = fin from hF]; exact hf j) (h4 _ (List.mem_of_getElem? hk))] at hg
    unfold vp_V
    rw [List.getD_eq_getElem?_getD, hg]
    rfl
  · refine qW_size (fun hz => ?_)
    have hq1 := (b1 n (q, .inr (ci, qfl w.2.2.2.2.2 w.2.1 (qz m n) n 0 (qft ci))) (by rw [List.getElem?_append_right (by rw [qws_len]; exact Nat.le_refl _), qws_len, Nat.sub_self]; rfl)).lt
    simp only [qSt] at hsz
    simp only at hq1
    have hqa := qnew_at b2 (by omega)
    subst hqa
    have hw : qws w (n + 1) (qz m n) = qws w n m ++ [(w.1 + n, .inr (ci, qfl w.2.2.2.2.2 w.2.1 (qz m n) n 0 (qft ci)))] := by
      rw [qws_push (qOff_qz m n), hs]
      rfl
    rw [← hw] at b1
    have := kk lo _ (qz m n) r hr hF H1 ls locs b1 b3 a4
    rw [List.map_cons, show qcv w.2.1 (.ref n) = .ref (w.1 + n) from hX n hN] at this
    rw [show n - n0 + 1 = n + 1 - n0 by omega, show qss n - qss n0 + N = qss (n + 1) - qss n0 by omega]
    exact this
theorem nNewi {k : Nat} (h : qOk C w own cc nL dp n0 n1) (d : decode cc pc = .ok (.newarray .int, 2)) (hs : qsh n = (1, k)) (hl : Jvm.Cond.arrayClass .int ∈ qTw) (hk : k ≤ 10000) (hn0 : n0 ≤ n) (hn : n + 1 ≤ n1) (hN : n < 1000) (kk : qSnd C w nL n0 Qf fin (n + 1) (pc + 2) t) : qSnd C w nL n0 Qf fin n pc (oNewa n k t) := by
  intro lo st m r hr hF H ls locs a2 a3 a4
  have hX := qOk_X h
  obtain ⟨x, t', rfl, h1⟩ := q1_some hr
  obtain ⟨hxk, h2⟩ := qbeq h1
  obtain ⟨hk0, h3⟩ := qbf h2
  have hsz : (qSt C).heap.size = w.1 + n0 := by obtain ⟨p, l, e, R, s, mi, args, below, meth, c⟩ := C; exact h.2.2.2.2.2.2.2.2.2.2.2.2.1
  obtain ⟨p, l, e, R, s, mi, args, below, meth, c⟩ := C
  obtain ⟨hx, hb, -, ho, hts, hK, -, -, hfr, hlo, hce, hsl, -⟩ := h
  have hss : qss (n + 1) = qss n + k := by simp only [qss, hs]; simp
  have e1 := qss_le hn0
  have e2 := qss_le hn
  have e3 := qss_le (Nat.le_succ n)
  have hneg : ¬ x < 0 := fun z => by
    rw [show x.toNatClampNeg = 0 by show x.toInt.toNat = 0; have := Int32.lt_iff_toInt_lt.mp z; rw [Int32.toInt_zero] at this; omega] at hxk
    rw [← hxk] at hk0
    cases hk0
  refine va_newa (atype := .int) (ty := .int) (a0 := (k, .inl (fun _ => 0))) (N' := k) (A := qAd w.1) (D := (w.2.2.2.1, w.2.2.2.2.1)) (cl := qCL) (ws := qws w n m) (tys := qtys w.2.2.1) hx hb (hts _ hl) rfl hK a2 (qws_D w n m) a3 (fun q hq2 => by show w.1 ≤ q; have := hsz; simp only [qSt] at this; omega) (fun cA => rfl) hneg hxk (by show k * _ ≤ _; simp only [componentBytes]; omega) (by show n - n0 + 1 ≤ R.cells; omega) (by show qss n - qss n0 + k ≤ R.slots; omega) d (fun q cA H1 bK b1 b2 b3 => ?_)
  refine qW_size (fun hz => ?_)
  have hq1 := (b1 n _ (by rw [List.getElem?_append_right (by rw [qws_len]; exact Nat.le_refl _), qws_len, Nat.sub_self]; rfl)).lt
  simp only [qSt] at hsz
  simp only at hq1
  have hqa := qnew_at b2 (by omega)
  subst hqa
  have hcA : cA = w.2.2.1 1 := by
    have g1 := (bK.2 5 (cA, .int) rfl).2
    have g2 := (hK.2 0 (w.2.2.1 1, .int) rfl).2
    exact Option.some.inj (g1.symm.trans g2)
  subst hcA
  have hw : qws w (n + 1) (qz m n) = qws w n m ++ [(w.1 + n, .inl (w.2.2.1 1, k, .inl (fun _ => 0)))] := by
    have hrow : gI (qz m n) n = fun _ => 0 := by
      funext j
      rw [gI_qz, if_pos rfl]
    rw [qws_push (qOff_qz m n), hs, qent_1, hrow]
  rw [← hw] at b1
  have := kk lo _ (qz m n) r h3 hF H1 ls locs b1 b3 a4
  rw [List.map_cons, show qcv w.2.1 (.ref n) = .ref (w.1 + n) from hX n hN] at this
  rw [show n - n0 + 1 = n + 1 - n0 by omega, show qss n - qss n0 + k = qss (n + 1) - qss n0 by omega]
  exact this
theorem nNewz {k : Nat} (h : qOk C w own cc nL dp n0 n1) (d : decode cc pc = .ok (.newarray .boolean, 2)) (hs : qsh n = (2, k)) (hl : Jvm.Cond.arrayClass .boolean ∈ qTw) (hk : k ≤ 10000) (hn0 : n0 ≤ n) (hn : n + 1 ≤ n1) (hN : n < 1000) (kk : qSnd C w nL n0 Qf fin (n + 1) (pc + 2) t) : qSnd C w nL n0 Qf fin n pc (oNewa n k t) := by
  intro lo st m r hr hF H ls locs a2 a3 a4
  have hX := qOk_X h
  obtain ⟨x, t', rfl, h1⟩ := q1_some hr
  obtain ⟨hxk, h2⟩ := qbeq h1
  obtain ⟨hk0, h3⟩ := qbf h2
  have hsz : (qSt C).heap.size = w.1 + n0 := by obtain ⟨p, l, e, R, s, mi, args, below, meth, c⟩ := C; exact h.2.2.2.2.2.2.2.2.2.2.2.2.1
  obtain ⟨p, l, e, R, s, mi, args, below, meth, c⟩ := C
  obtain ⟨hx, hb, -, ho, hts, hK, -, -, hfr, hlo, hce, hsl, -⟩ := h
  have hss : qss (n + 1) = qss n + k := by simp only [qss, hs]; simp
  have e1 := qss_le hn0
  have e2 := qss_le hn
  have e3 := qss_le (Nat.le_succ n)
  have hneg : ¬ x < 0 := fun z => by
    rw [show x.toNatClampNeg = 0 by show x.toInt.toNat = 0; have := Int32.lt_iff_toInt_lt.mp z; rw [Int32.toInt_zero] at this; omega] at hxk
    rw [← hxk] at hk0
    cases hk0
  refine va_newa (atype := .boolean) (ty := .boolean) (a0 := (k, .inl (fun _ => 0))) (N' := k) (A := qAd w.1) (D := (w.2.2.2.1, w.2.2.2.2.1)) (cl := qCL) (ws := qws w n m) (tys := qtys w.2.2.1) hx hb (hts _ hl) rfl hK a2 (qws_D w n m) a3 (fun q hq2 => by show w.1 ≤ q; have := hsz; simp only [qSt] at this; omega) (fun cA => rfl) hneg hxk (by show k * _ ≤ _; simp only [componentBytes]; omega) (by show n - n0 + 1 ≤ R.cells; omega) (by show qss n - qss n0 + k ≤ R.slots; omega) d (fun q cA H1 bK b1 b2 b3 => ?_)
  refine qW_size (fun hz => ?_)
  have hq1 := (b1 n _ (by rw [List.getElem?_append_right (by rw [qws_len]; exact Nat.le_refl _), qws_len, Nat.sub_self]; rfl)).lt
  simp only [qSt] at hsz
  simp only at hq1
  have hqa := qnew_at b2 (by omega)
  subst hqa
  have hcA : cA = w.2.2.1 2 := by
    have g1 := (bK.2 5 (cA, .boolean) rfl).2
    have g2 := (hK.2 1 (w.2.2.1 2, .boolean) rfl).2
    exact Option.some.inj (g1.symm.trans g2)
  subst hcA
  have hw : qws w (n + 1) (qz m n) = qws w n m ++ [(w.1 + n, .inl (w.2.2.1 2, k, .inl (fun _ => 0)))] := by
    have hrow : gI (qz m n) n = fun _ => 0 := by
      funext j
      rw [gI_qz, if_pos rfl]
    rw [qws_push (qOff_qz m n), hs, qent_2, hrow]
  rw [← hw] at b1
  have := kk lo _ (qz m n) r h3 hF H1 ls locs b1 b3 a4
  rw [List.map_cons, show qcv w.2.1 (.ref n) = .ref (w.1 + n) from hX n hN] at this
  rw [show n - n0 + 1 = n + 1 - n0 by omega, show qss n - qss n0 + k = qss (n + 1) - qss n0 by omega]
  exact this
theorem nNewb {k : Nat} (h : qOk C w own cc nL dp n0 n1) (d : decode cc pc = .ok (.newarray .byte, 2)) (hs : qsh n = (3, k)) (hl : Jvm.Cond.arrayClass .byte ∈ qTw) (hk : k ≤ 10000) (hn0 : n0 ≤ n) (hn : n + 1 ≤ n1) (hN : n < 1000) (kk : qSnd C w nL n0 Qf fin (n + 1) (pc + 2) t) : qSnd C w nL n0 Qf fin n pc (oNewa n k t) := by
  intro lo st m r hr hF H ls locs a2 a3 a4
  have hX := qOk_X h
  obtain ⟨x, t', rfl, h1⟩ := q1_some hr
  obtain ⟨hxk, h2⟩ := qbeq h1
  obtain ⟨hk0, h3⟩ := qbf h2
  have hsz : (qSt C).heap.size = w.1 + n0 := by obtain ⟨p, l, e, R, s, mi, args, below, meth, c⟩ := C; exact h.2.2.2.2.2.2.2.2.2.2.2.2.1
  obtain ⟨p, l, e, R, s, mi, args, below, meth, c⟩ := C
  obtain ⟨hx, hb, -, ho, hts, hK, -, -, hfr, hlo, hce, hsl, -⟩ := h
  have hss : qss (n + 1) = qss n + k := by simp only [qss, hs]; simp
  have e1 := qss_le hn0
  have e2 := qss_le hn
  have e3 := qss_le (Nat.le_succ n)
  have hneg : ¬ x < 0 := fun z => by
    rw [show x.toNatClampNeg = 0 by show x.toInt.toNat = 0; have := Int32.lt_iff_toInt_lt.mp z; rw [Int32.toInt_zero] at this; omega] at hxk
    rw [← hxk] at hk0
    cases hk0
  refine va_newa (atype := .byte) (ty := .byte) (a0 := (k, .inl (fun _ => 0))) (N' := k) (A := qAd w.1) (D := (w.2.2.2.1, w.2.2.2.2.1)) (cl := qCL) (ws := qws w n m) (tys := qtys w.2.2.1) hx hb (hts _ hl) rfl hK a2 (qws_D w n m) a3 (fun q hq2 => by show w.1 ≤ q; have := hsz; simp only [qSt] at this; omega) (fun cA => rfl) hneg hxk (by show k * _ ≤ _; simp only [componentBytes]; omega) (by show n - n0 + 1 ≤ R.cells; omega) (by show qss n - qss n0 + k ≤ R.slots; omega) d (fun q cA H1 bK b1 b2 b3 => ?_)
  refine qW_size (fun hz => ?_)
  have hq1 := (b1 n _ (by rw [List.getElem?_append_right (by rw [qws_len]; exact Nat.le_refl _), qws_len, Nat.sub_self]; rfl)).lt
  simp only [qSt] at hsz
  simp only at hq1
  have hqa := qnew_at b2 (by omega)
  subst hqa
  have hcA : cA = w.2.2.1 3 := by
    have g1 := (bK.2 5 (cA, .byte) rfl).2
    have g2 := (hK.2 2 (w.2.2.1 3, .byte) rfl).2
    exact Option.some.inj (g1.symm.trans g2)
  subst hcA
  have hw : qws w (n + 1) (qz m n) = qws w n m ++ [(w.1 + n, .inl (w.2.2.1 3, k, .inl (fun _ => 0)))] := by
    have hrow : gI (qz m n) n = fun _ => 0 := by
      funext j
      rw [gI_qz, if_pos rfl]
    rw [qws_push (qOff_qz m n), hs, qent_3, hrow]
  rw [← hw] at b1
  have := kk lo _ (qz m n) r h3 hF H1 ls locs b1 b3 a4
  rw [List.map_cons, show qcv w.2.1 (.ref n) = .ref (w.1 + n) from hX n hN] at this
  rw [show n - n0 + 1 = n + 1 - n0 by omega, show qss n - qss n0 + k = qss (n + 1) - qss n0 by omega]
  exact this
theorem nNewl {k : Nat} (h : qOk C w own cc nL dp n0 n1) (d : decode cc pc = .ok (.newarray .long, 2)) (hs : qsh n = (4, k)) (hl : Jvm.Cond.arrayClass .long ∈ qTw) (hk : k ≤ 10000) (hn0 : n0 ≤ n) (hn : n + 1 ≤ n1) (hN : n < 1000) (kk : qSnd C w nL n0 Qf fin (n + 1) (pc + 2) t) : qSnd C w nL n0 Qf fin n pc (oNewa n k t) := by
  intro lo st m r hr hF H ls locs a2 a3 a4
  have hX := qOk_X h
  obtain ⟨x, t', rfl, h1⟩ := q1_some hr
  obtain ⟨hxk, h2⟩ := qbeq h1
  obtain ⟨hk0, h3⟩ := qbf h2
  have hsz : (qSt C).heap.size = w.1 + n0 := by obtain ⟨p, l, e, R, s, mi, args, below, meth, c⟩ := C; exact h.2.2.2.2.2.2.2.2.2.2.2.2.1
  obtain ⟨p, l, e, R, s, mi, args, below, meth, c⟩ := C
  obtain ⟨hx, hb, -, ho, hts, hK, -, -, hfr, hlo, hce, hsl, -⟩ := h
  have hss : qss (n + 1) = qss n + k := by simp only [qss, hs]; simp
  have e1 := qss_le hn0
  have e2 := qss_le hn
  have e3 := qss_le (Nat.le_succ n)
  have hneg : ¬ x < 0 := fun z => by
    rw [show x.toNatClampNeg = 0 by show x.toInt.toNat = 0; have := Int32.lt_iff_toInt_lt.mp z; rw [Int32.toInt_zero] at this; omega] at hxk
    rw [← hxk] at hk0
    cases hk0
  refine va_newa (atype := .long) (ty := .long) (a0 := (k, .inr (.inl (fun _ => 0)))) (N' := k) (A := qAd w.1) (D := (w.2.2.2.1, w.2.2.2.2.1)) (cl := qCL) (ws := qws w n m) (tys := qtys w.2.2.1) hx hb (hts _ hl) rfl hK a2 (qws_D w n m) a3 (fun q hq2 => by show w.1 ≤ q; have := hsz; simp only [qSt] at this; omega) (fun cA => rfl) hneg hxk (by show k * _ ≤ _; simp only [componentBytes]; omega) (by show n - n0 + 1 ≤ R.cells; omega) (by show qss n - qss n0 + k ≤ R.slots; omega) d (fun q cA H1 bK b1 b2 b3 => ?_)
  refine qW_size (fun hz => ?_)
  have hq1 := (b1 n _ (by rw [List.getElem?_append_right (by rw [qws_len]; exact Nat.le_refl _), qws_len, Nat.sub_self]; rfl)).lt
  simp only [qSt] at hsz
  simp only at hq1
  have hqa := qnew_at b2 (by omega)
  subst hqa
  have hcA : cA = w.2.2.1 4 := by
    have g1 := (bK.2 5 (cA, .long) rfl).2
    have g2 := (hK.2 3 (w.2.2.1 4, .long) rfl).2
    exact Option.some.inj (g1.symm.trans g2)
  subst hcA
  have hw : qws w (n + 1) (qz m n) = qws w n m ++ [(w.1 + n, .inl (w.2.2.1 4, k, .inr (.inl (fun _ => 0))))] := by
    have hrow : gL (qz m n) n = fun _ => 0 := by
      funext j
      rw [gL_qz, if_pos rfl]
    rw [qws_push (qOff_qz m n), hs, qent_4, hrow]
  rw [← hw] at b1
  have := kk lo _ (qz m n) r h3 hF H1 ls locs b1 b3 a4
  rw [List.map_cons, show qcv w.2.1 (.ref n) = .ref (w.1 + n) from hX n hN] at this
  rw [show n - n0 + 1 = n + 1 - n0 by omega, show qss n - qss n0 + k = qss (n + 1) - qss n0 by omega]
  exact this
theorem nNewq {k ix : Nat} (h : qOk C w own cc nL dp n0 n1) (d : decode cc pc = .ok (.anewarray ix, 3)) (hs : qsh n = (5, k)) (hl : Jvm.Cond.classLink own ix RX5 ∈ qTw) (hO : va_AO RX5 (qSt C)) (hk : k ≤ 10000) (hn0 : n0 ≤ n) (hn : n + 1 ≤ n1) (hN : n < 1000) (kk : qSnd C w nL n0 Qf fin (n + 1) (pc + 3) t) : qSnd C w nL n0 Qf fin n pc (oNewa n k t) := by
  intro lo st m r hr hF H ls locs a2 a3 a4
  have hX := qOk_X h
  obtain ⟨x, t', rfl, h1⟩ := q1_some hr
  obtain ⟨hxk, h2⟩ := qbeq h1
  obtain ⟨hk0, h3⟩ := qbf h2
  have hsz : (qSt C).heap.size = w.1 + n0 := by obtain ⟨p, l, e, R, s, mi, args, below, meth, c⟩ := C; exact h.2.2.2.2.2.2.2.2.2.2.2.2.1
  obtain ⟨p, l, e, R, s, mi, args, below, meth, c⟩ := C
  obtain ⟨hx, hb, -, ho, hts, hK, -, -, hfr, hlo, hce, hsl, -⟩ := h
  have hss : qss (n + 1) = qss n + k := by simp only [qss, hs]; simp
  have e1 := qss_le hn0
  have e2 := qss_le hn
  have e3 := qss_le (Nat.le_succ n)
  have hneg : ¬ x < 0 := fun z => by
    rw [show x.toNatClampNeg = 0 by show x.toInt.toNat = 0; have := Int32.lt_iff_toInt_lt.mp z; rw [Int32.toInt_zero] at this; omega] at hxk
    rw [← hxk] at hk0
    cases hk0
  refine va_newq (N' := k) (A := qAd w.1) (D := (w.2.2.2.1, w.2.2.2.2.1)) (cl := qCL) (ws := qws w n m) (tys := qtys w.2.2.1) hx hb ho (hts _ hl) hO hK a2 (qws_D w n m) a3 (fun q hq2 => by show w.1 ≤ q; have := hsz; simp only [qSt] at this; omega) hneg hxk (by omega) (by show n - n0 + 1 ≤ R.cells; omega) (by show qss n - qss n0 + k ≤ R.slots; omega) d (fun q cA H1 bK b1 b2 b3 => ?_)
  refine qW_size (fun hz => ?_)
  have hq1 := (b1 n _ (by rw [List.getElem?_append_right (by rw [qws_len]; exact Nat.le_refl _), qws_len, Nat.sub_self]; rfl)).lt
  simp only [qSt] at hsz
  simp only at hq1
  have hqa := qnew_at b2 (by omega)
  subst hqa
  have hcA : cA = w.2.2.1 5 := by
    obtain ⟨_, _, _, _, _, g1⟩ := (bK.2 5 (cA, .object RX5) rfl).2
    obtain ⟨_, _, _, _, _, g2⟩ := (hK.2 4 (w.2.2.1 5, .object RX5) rfl).2
    exact Option.some.inj (g1.symm.trans g2)
  subst hcA
  have hw : qws w (n + 1) (qz m n) = qws w n m ++ [(w.1 + n, .inl (w.2.2.1 5, k, .inr (.inr (.inr (.inr (fun _ => none))))))] := by
    have hrow : (fun j => (gR (qz m n) n j).map (w.1 + ·)) = fun _ => none := by
      funext j
      rw [gR_qz, if_pos rfl]
      rfl
    rw [qws_push (qOff_qz m n), hs, qent_5, hrow]
  rw [← hw] at b1
  have := kk lo _ (qz m n) r h3 hF H1 ls locs b1 b3 a4
  rw [List.map_cons, show qcv w.2.1 (.ref n) = .ref (w.1 + n) from hX n hN] at this
  rw [show n - n0 + 1 = n + 1 - n0 by omega, show qss n - qss n0 + k = qss (n + 1) - qss n0 by omega]
  exact this
theorem nObj {ix : Nat} (h : qOk C w own cc nL dp n0 n1) (d : decode cc pc = .ok (.invokespecial ix, 3)) (hl : Jvm.Cond.methodLink own ix objectInit ∈ qTw) (hi : Jvm.Cond.instanceMethod objectInit ∈ qTw) (hc : Jvm.Cond.code objectInit ⟨#[0xb1]⟩ 1 none ∈ qTw) (hd : 1 ≤ dp) (kk : qSnd C w nL n0 Qf fin n (pc + 3) t) (hcl : ∀ c : Nat, c < 1000 → True) : qSnd C w nL n0 Qf fin n pc (oObj t) := by
  intro lo st m r hr hF H ls locs a2 a3 a4
  have hXr := qOk_Xr h
  have hX := qOk_X h
  unfold oObj at hr
  split at hr
  · rename_i q s1
    obtain ⟨h1, h1b⟩ := qbt hr
    obtain ⟨h2, h3⟩ := qble h1b
    rw [List.map_cons, show qcv w.2.1 (.ref q) = .ref (w.1 + q) from hX q (by simpa [Nat.blt_eq] using h1)]
    obtain ⟨p, l, e, R, s, mi, args, below, meth, c⟩ := C
    obtain ⟨hx, hb, hml, ho, hts, hK, -, -, hfr, hlo, -⟩ := h
    have hcat := qcv_cats hXr s1
    exact W.objInit hx hb ho (hts _ hl) (hts _ hi) (hts _ hc) rfl (by rw [hml]; exact a4.1.1) rfl d (by omega) (by show 2 * 0 + _ + 12 ≤ _; rw [hcat]; omega) (kk lo _ m r h3 hF H ls locs a2 a3 a4)
  · cases hr
theorem nCopy {a d0 k0 k1 jx : Nat} (h : qOk C w own cc nL dp n0 n1) (d : decode cc pc = .ok (.invokestatic jx, 3)) (hl : Jvm.Cond.methodLink own jx arraycopyName ∈ qTw) (hnat : Jvm.Cond.native arraycopyName ∈ qTw) (hst : Jvm.Cond.static arraycopyName ∈ qTw) (hini : Jvm.Cond.initialized "java/lang/System" ∈ qTw) (hsa : qsh a = (1, k0)) (hsd : qsh d0 = (1, k1)) (hna : a < n) (hnd : d0 < n) (hN : n ≤ 1000) (hd : 1 ≤ dp) (kk : qSnd C w nL n0 Qf fin n (pc + 3) t) : qSnd C w nL n0 Qf fin n pc (oCopy a d0 k0 k1 t) := by
  intro lo st m r hr hF H ls locs a2 a3 a4
  have hXr := qOk_Xr h
  have hX := qOk_X h
  unfold oCopy at hr
  split at hr
  · rename_i nn y q1 x q0 s1
    obtain ⟨rfl, h1⟩ := qbeq hr
    obtain ⟨rfl, h2⟩ := qbeq h1
    obtain ⟨hx0, h3⟩ := qbt h2
    obtain ⟨hy0, h4⟩ := qbt h3
    obtain ⟨hn0, h5⟩ := qbf h4
    obtain ⟨hk0, h6⟩ := qble h5
    obtain ⟨hk1, h7⟩ := qble h6
    obtain ⟨hcat, h8⟩ := qble h7
    rw [eqb_d] at hx0 hy0
    have hx0 := of_decide_eq_true hx0
    have hy0 := of_decide_eq_true hy0
    subst hx0
    subst hy0
    rw [ltb_d] at hn0
    have hn0 := of_decide_eq_false hn0
    simp only [ix_d] at hk0 hk1
    have hcats := qcv_cats hXr s1
    rw [List.map_cons, List.map_cons, List.map_cons, List.map_cons, List.map_cons, qX_at hX hna hN, qX_at hX hnd hN]
    obtain ⟨p, l, e, R, s, mi, args, below, meth, c⟩ := C
    obtain ⟨hx, hb, hml, ho, hts, hK, -, -, hfr, hlo, -⟩ := h
    have he0 := qws_at (w := w) m hna
    have he1 := qws_at (w := w) m hnd
    rw [hsa, qent_1] at he0
    rw [hsd, qent_1] at he1
    have z0 : (0 : Int32).toNatClampNeg = 0 := rfl
    have hnw : nativeFrameWords "java/lang/System" "arraycopy" 5 ≤ 7 := by decide +kernel
    refine va_copyi hx hb (hml.trans a4.1.1.symm) ho (hts _ hl) (hts _ hnat) (hts _ hst) (hts _ hini) hK a2 (qws_D w n m) a3 q0 q1 0 0 he0 he1 (show (qtys w.2.2.1)[0]? = some (w.2.2.1 1, .int) from rfl) (show (qtys w.2.2.1)[0]? = some (w.2.2.1 1, .int) from rfl) rfl (by decide) (by decide) hn0 (by rw [z0]; omega) (by rw [z0]; omega) (fun i hi => rfl) (by omega) (by rw [hcats]; omega) d (fun H1 locs1 b1 b2 b3 => ?_)
    refine kk lo _ _ r h8 hF H1 ls locs1 ?_ b3 a4
    rw [z0] at b1
    have hrow : gI (sC m q0 q1 (ix nn)) q1 = va_cpy (gI m q0) (gI m q1) 0 0 nn.toNatClampNeg := by
      funext j
      simp only [gI_sC, ix_d]
      by_cases hj : j < nn.toNatClampNeg <;> simp [va_cpy, hj]
    rw [qws_set hnd (qOff_sC m q0 q1 (ix nn)), hsd, qent_1, hrow]
    exact b1
  · cases hr
end
