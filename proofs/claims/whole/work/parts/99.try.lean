theorem mf_X4_22 : Jvm.Cond.fieldLink RX4 22 (qTb 4 5).1 (qTb 4 5).2.1 (qTb 4 5).2.2.1 ∈ qTw := qm1 (List.mem_of_getElem? (i := 189) (by decide +kernel)) rfl
theorem ff_X4_22_58 : qFd RX4 22 58 4 5 3 := ⟨mf_X4_22, rfl, by decide, rfl⟩
theorem dX4_isLaid_0 : decode cX4_isLaid 0 = .ok (.aload_n 0, 1) := by decide +kernel
theorem dX4_isLaid_1 : decode cX4_isLaid 1 = .ok (.getfield 22, 3) := by decide +kernel
theorem dX4_isLaid_4 : decode cX4_isLaid 4 = .ok (.iload_n 1, 1) := by decide +kernel
theorem dX4_isLaid_5 : decode cX4_isLaid 5 = .ok (.iaload, 1) := by decide +kernel
theorem dX4_isLaid_6 : decode cX4_isLaid 6 = .ok (.iconst (-1), 1) := by decide +kernel
theorem dX4_isLaid_7 : decode cX4_isLaid 7 = .ok (.if_icmp .eq 7, 3) := by decide +kernel
theorem dX4_isLaid_10 : decode cX4_isLaid 10 = .ok (.iconst 1, 1) := by decide +kernel
theorem dX4_isLaid_11 : decode cX4_isLaid 11 = .ok (.goto 4, 3) := by decide +kernel
theorem dX4_isLaid_14 : decode cX4_isLaid 14 = .ok (.iconst 0, 1) := by decide +kernel
theorem dX4_isLaid_15 : decode cX4_isLaid 15 = .ok (.ireturn, 1) := by decide +kernel
noncomputable def fX4_isLaid_9 (s0 : Int32) (m : qM) : Option (Int32 × qM) :=
  some (nz s0, m)
noncomputable def tX4_isLaid_9 : qT (Int32 × qM) :=
  eZ
noncomputable def wX4_isLaid_9 (k : Int32 → qM → Option (Int32 × qM)) : qT (Int32 × qM) := fun lo st m => match lo, st with
  | [_, _], [.int s0] => k s0 m
  | _, _ => none
set_option maxRecDepth 20000 in
theorem sX4_isLaid_9 {C : qCx} {w : qWp} (h : qOk C w RX4 cX4_isLaid 2 0 155 155) (hm : qMt C (some .boolean)) (hx : qNx C) : qSnd C w 2 155 (qQf C w 155 155 jI) qfin 155 15 (tX4_isLaid_9) :=
  zZ (pc := 15) h hm (Nat.le_refl _) dX4_isLaid_15
set_option maxRecDepth 20000 in
theorem lX4_isLaid_9 (s0 : Int32) (m : qM) : tX4_isLaid_9 [none, none] [(.int s0)] m = fX4_isLaid_9 s0 m := rfl
theorem bX4_isLaid_9 {C : qCx} {w : qWp} (h : qOk C w RX4 cX4_isLaid 2 0 155 155) (hm : qMt C (some .boolean)) (hx : qNx C) : qSnd C w 2 155 (qQf C w 155 155 jI) qfin 155 15 (wX4_isLaid_9 fX4_isLaid_9) :=
  qSnd_of (fun lo st m x hr0 => by
    unfold wX4_isLaid_9 at hr0
    split at hr0
    · exact ⟨_, (qsub_n (qsub_n qsub_nil)), (lX4_isLaid_9 _ _).trans hr0⟩
    · cases hr0) (sX4_isLaid_9 h hm hx)
noncomputable def fX4_isLaid_0 (a1 : Int32) (m : qM) : Option (Int32 × qM) :=
  bif inb a1 40 then bif eqb ((gI m 62 (ix a1))) ((-1 : Int32)) then fX4_isLaid_9 ((0 : Int32)) m else fX4_isLaid_9 ((1 : Int32)) m else none
noncomputable def tX4_isLaid_0 (j9 : qT (Int32 × qM)) : qT (Int32 × qM) :=
  oLa 0 (oGf 58 5 62 (oLi 1 (oAi 62 40 (oC (.int (-1 : Int32)) (oCEq (oC (.int (0 : Int32)) (j9)) (oC (.int (1 : Int32)) (j9)))))))
set_option maxRecDepth 20000 in
theorem sX4_isLaid_0 {C : qCx} {w : qWp} (h : qOk C w RX4 cX4_isLaid 2 0 155 155) (hm : qMt C (some .boolean)) (hx : qNx C) {j9 : qT (Int32 × qM)} (k9 : qSnd C w 2 155 (qQf C w 155 155 jI) qfin 155 15 j9) : qSnd C w 2 155 (qQf C w 155 155 jI) qfin 155 0 (tX4_isLaid_0 j9) :=
  cLa (pc := 0) h dX4_isLaid_0 rfl (gGf (pc := 1) h dX4_isLaid_1 ff_X4_22_58 (Nat.le_of_ble_eq_true rfl) (Nat.le_of_ble_eq_true rfl) rfl (cLi (pc := 4) h dX4_isLaid_4 rfl (rAi (pc := 5) h dX4_isLaid_5 rfl (Nat.le_of_ble_eq_true rfl) (Nat.le_of_ble_eq_true rfl) (cC (pc := 6) h dX4_isLaid_6 rfl (jCEq (pc := 7) h dX4_isLaid_7 rfl (cC (pc := 14) h dX4_isLaid_14 rfl (k9)) (cC (pc := 10) h dX4_isLaid_10 rfl (jGo (pc := 11) h dX4_isLaid_11 rfl (k9))))))))
set_option maxRecDepth 20000 in
theorem lX4_isLaid_0 (a1 : Int32) (m : qM) : tX4_isLaid_0 (wX4_isLaid_9 fX4_isLaid_9) [some (.ref 58), some (.int a1)] [] m = fX4_isLaid_0 a1 m := rfl
noncomputable def fX4_isLaid (a1 : Int32) (m : qM) : Option (Int32 × qM) := fX4_isLaid_0 a1 m
noncomputable def GX4_isLaid : qG Int32 := fun av m => match av with
  | [.ref 58, .int a1] => fX4_isLaid a1 m
  | _ => none
theorem spX4_isLaid : qSpI yX4_isLaid (.code yX4_isLaid cX4_isLaid 2 (some .boolean)) 0 qfin 155 155 1 GX4_isLaid := by
  intro av m x m' hG
  unfold GX4_isLaid at hG
  split at hG
  · rename_i a1
    exact ⟨qmeet (J := jI) (r := (x, m')) (av := [.ref 58, .int a1]) rfl (Nat.le_refl _) (fun C w h hm hx hn => sX4_isLaid_0 h hm hx (bX4_isLaid_9 h hm hx)) ((lX4_isLaid_0 _ _).trans hG) (Nat.le_of_ble_eq_true rfl), Or.inl ⟨58, _, 4, _, _, rfl, by decide, rfl, qCk_4, rfl⟩⟩
  · cases hG
