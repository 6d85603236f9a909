/-! methods (by program): X11_may, X11_lay, X11_lift, X11_layAll, X11_best, X11_settle, X11_about, X11_waits, X11_value, X11_habit, X11_foretold, X11_begin, X11_over, X11_absent, X11_comes, X11_away -/
theorem ml_X11_196 : Jvm.Cond.methodLink RX11 196 yX4_isAsk ∈ qTw := qm4 (List.mem_of_getElem? (i := 50) (by decide +kernel)) (by decide +kernel)
theorem kd_X11_196 {C : qCx} {w : qWp} {cc : ByteArray} {nL dp n0 n1 pc : Nat} (h : qOk C w RX11 cc nL dp n0 n1) (d : decode cc pc = .ok (.invokevirtual 196, 3)) : qCallOk C w nL dp n0 n1 pc 2 1 yX4_isAsk (.code yX4_isAsk cX4_isAsk 2 (some .boolean)) := kindV h d ml_X11_196 im_X4_isAsk se_X4_isAsk in_ParentEve_Plan co_X4_isAsk yk_X4_isAsk (by decide)
theorem ml_X11_199 : Jvm.Cond.methodLink RX11 199 yX4_isLaid ∈ qTw := qm4 (List.mem_of_getElem? (i := 54) (by decide +kernel)) (by decide +kernel)
theorem kd_X11_199 {C : qCx} {w : qWp} {cc : ByteArray} {nL dp n0 n1 pc : Nat} (h : qOk C w RX11 cc nL dp n0 n1) (d : decode cc pc = .ok (.invokevirtual 199, 3)) : qCallOk C w nL dp n0 n1 pc 2 1 yX4_isLaid (.code yX4_isLaid cX4_isLaid 2 (some .boolean)) := kindV h d ml_X11_199 im_X4_isLaid se_X4_isLaid in_ParentEve_Plan co_X4_isLaid yk_X4_isLaid (by decide)
theorem ml_X11_202 : Jvm.Cond.methodLink RX11 202 yX4_openSlots ∈ qTw := qm4 (List.mem_of_getElem? (i := 58) (by decide +kernel)) (by decide +kernel)
theorem kd_X11_202 {C : qCx} {w : qWp} {cc : ByteArray} {nL dp n0 n1 pc : Nat} (h : qOk C w RX11 cc nL dp n0 n1) (d : decode cc pc = .ok (.invokevirtual 202, 3)) : qCallOk C w nL dp n0 n1 pc 2 1 yX4_openSlots (.code yX4_openSlots cX4_openSlots 5 (some .int)) := kindV h d ml_X11_202 im_X4_openSlots se_X4_openSlots in_ParentEve_Plan co_X4_openSlots yk_X4_openSlots (by decide)
theorem ml_X11_205 : Jvm.Cond.methodLink RX11 205 yX11_has ∈ qTw := qm4 (List.mem_of_getElem? (i := 99) (by decide +kernel)) (by decide +kernel)
theorem kd_X11_205 {C : qCx} {w : qWp} {cc : ByteArray} {nL dp n0 n1 pc : Nat} (h : qOk C w RX11 cc nL dp n0 n1) (d : decode cc pc = .ok (.invokestatic 205, 3)) : qCallOk C w nL dp n0 n1 pc 2 0 yX11_has (.code yX11_has cX11_has 2 (some .boolean)) := kindS h d ml_X11_205 im_X11_has in_ParentEve co_X11_has yk_X11_has (by decide)
theorem dX11_may_0 : decode cX11_may 0 = .ok (.aload_n 0, 1) := by decide +kernel
theorem dX11_may_1 : decode cX11_may 1 = .ok (.getfield 53, 3) := by decide +kernel
theorem dX11_may_4 : decode cX11_may 4 = .ok (.iload_n 1, 1) := by decide +kernel
theorem dX11_may_5 : decode cX11_may 5 = .ok (.invokevirtual 196, 3) := by decide +kernel
theorem dX11_may_8 : decode cX11_may 8 = .ok (.ifCond .eq 13, 3) := by decide +kernel
theorem dX11_may_11 : decode cX11_may 11 = .ok (.iload_n 2, 1) := by decide +kernel
theorem dX11_may_12 : decode cX11_may 12 = .ok (.iconst 0, 1) := by decide +kernel
theorem dX11_may_13 : decode cX11_may 13 = .ok (.bipush 19, 2) := by decide +kernel
theorem dX11_may_15 : decode cX11_may 15 = .ok (.invokestatic 103, 3) := by decide +kernel
theorem dX11_may_18 : decode cX11_may 18 = .ok (.ifCond .ne 6, 3) := by decide +kernel
theorem dX11_may_21 : decode cX11_may 21 = .ok (.bipush (-2), 2) := by decide +kernel
theorem dX11_may_23 : decode cX11_may 23 = .ok (.ireturn, 1) := by decide +kernel
theorem dX11_may_24 : decode cX11_may 24 = .ok (.aload_n 0, 1) := by decide +kernel
theorem dX11_may_25 : decode cX11_may 25 = .ok (.getfield 53, 3) := by decide +kernel
theorem dX11_may_28 : decode cX11_may 28 = .ok (.iload_n 1, 1) := by decide +kernel
theorem dX11_may_29 : decode cX11_may 29 = .ok (.invokevirtual 199, 3) := by decide +kernel
theorem dX11_may_32 : decode cX11_may 32 = .ok (.ifCond .eq 6, 3) := by decide +kernel
theorem dX11_may_35 : decode cX11_may 35 = .ok (.bipush (-4), 2) := by decide +kernel
theorem dX11_may_37 : decode cX11_may 37 = .ok (.ireturn, 1) := by decide +kernel
theorem dX11_may_38 : decode cX11_may 38 = .ok (.aload_n 0, 1) := by decide +kernel
theorem dX11_may_39 : decode cX11_may 39 = .ok (.getfield 53, 3) := by decide +kernel
theorem dX11_may_42 : decode cX11_may 42 = .ok (.iload_n 1, 1) := by decide +kernel
theorem dX11_may_43 : decode cX11_may 43 = .ok (.invokevirtual 202, 3) := by decide +kernel
theorem dX11_may_46 : decode cX11_may 46 = .ok (.iload_n 2, 1) := by decide +kernel
theorem dX11_may_47 : decode cX11_may 47 = .ok (.invokestatic 205, 3) := by decide +kernel
theorem dX11_may_50 : decode cX11_may 50 = .ok (.ifCond .eq 7, 3) := by decide +kernel
theorem dX11_may_53 : decode cX11_may 53 = .ok (.iconst 1, 1) := by decide +kernel
theorem dX11_may_54 : decode cX11_may 54 = .ok (.goto 4, 3) := by decide +kernel
theorem dX11_may_57 : decode cX11_may 57 = .ok (.iconst 0, 1) := by decide +kernel
theorem dX11_may_58 : decode cX11_may 58 = .ok (.ireturn, 1) := by decide +kernel
noncomputable def tX11_may_10 : qT (Int32 × qM) :=
  oC (.int (-2 : Int32)) (eI)
noncomputable def wX11_may_10 (k : qM → Option (Int32 × qM)) : qT (Int32 × qM) := fun lo st m => match lo, st with
  | [_, _, _], [] => k m
  | _, _ => none
set_option maxRecDepth 20000 in
theorem sX11_may_10 {C : qCx} {w : qWp} (h : qOk C w RX11 cX11_may 3 4 155 155) (hm : qMt C (some .int)) (hx : qNx C) : qSnd C w 3 155 (qQf C w 155 155 jI) qfin 155 21 (tX11_may_10) :=
  cB (pc := 21) h dX11_may_21 rfl (zI (pc := 23) h hm (Nat.le_refl _) dX11_may_23)
set_option maxRecDepth 20000 in
theorem lX11_may_10 (m : qM) : tX11_may_10 [none, none, none] [] m = fX11_may_10 m := rfl
theorem bX11_may_10 {C : qCx} {w : qWp} (h : qOk C w RX11 cX11_may 3 4 155 155) (hm : qMt C (some .int)) (hx : qNx C) : qSnd C w 3 155 (qQf C w 155 155 jI) qfin 155 21 (wX11_may_10 fX11_may_10) :=
  qSnd_of (fun lo st m x hr0 => by
    unfold wX11_may_10 at hr0
    split at hr0
    · exact ⟨_, (qsub_n (qsub_n (qsub_n qsub_nil))), (lX11_may_10 _).trans hr0⟩
    · cases hr0) (sX11_may_10 h hm hx)
noncomputable def tX11_may_29 : qT (Int32 × qM) :=
  eI
noncomputable def wX11_may_29 (k : Int32 → qM → Option (Int32 × qM)) : qT (Int32 × qM) := fun lo st m => match lo, st with
  | [_, _, _], [.int s0] => k s0 m
  | _, _ => none
set_option maxRecDepth 20000 in
theorem sX11_may_29 {C : qCx} {w : qWp} (h : qOk C w RX11 cX11_may 3 4 155 155) (hm : qMt C (some .int)) (hx : qNx C) : qSnd C w 3 155 (qQf C w 155 155 jI) qfin 155 58 (tX11_may_29) :=
  zI (pc := 58) h hm (Nat.le_refl _) dX11_may_58
set_option maxRecDepth 20000 in
theorem lX11_may_29 (s0 : Int32) (m : qM) : tX11_may_29 [none, none, none] [(.int s0)] m = fX11_may_29 s0 m := rfl
theorem bX11_may_29 {C : qCx} {w : qWp} (h : qOk C w RX11 cX11_may 3 4 155 155) (hm : qMt C (some .int)) (hx : qNx C) : qSnd C w 3 155 (qQf C w 155 155 jI) qfin 155 58 (wX11_may_29 fX11_may_29) :=
  qSnd_of (fun lo st m x hr0 => by
    unfold wX11_may_29 at hr0
    split at hr0
    · exact ⟨_, (qsub_n (qsub_n (qsub_n qsub_nil))), (lX11_may_29 _ _).trans hr0⟩
    · cases hr0) (sX11_may_29 h hm hx)
noncomputable def tX11_may_0 (j10 : qT (Int32 × qM)) (j29 : qT (Int32 × qM)) : qT (Int32 × qM) :=
  oLa 0 (oGf 0 5 58 (oLi 1 (oCi GX4_isAsk 2 (oEq (j10) (oLi 2 (oC (.int (0 : Int32)) (oC (.int (19 : Int32)) (oCi GX11_within 3 (oEq (j10) (oLa 0 (oGf 0 5 58 (oLi 1 (oCi GX4_isLaid 2 (oEq (oLa 0 (oGf 0 5 58 (oLi 1 (oCi GX4_openSlots 2 (oLi 2 (oCi GX11_has 2 (oEq (oC (.int (0 : Int32)) (j29)) (oC (.int (1 : Int32)) (j29))))))))) (oC (.int (-4 : Int32)) (eI))))))))))))))))
set_option maxRecDepth 20000 in
theorem sX11_may_0 {C : qCx} {w : qWp} (h : qOk C w RX11 cX11_may 3 4 155 155) (hm : qMt C (some .int)) (hx : qNx C) {j10 : qT (Int32 × qM)} {j29 : qT (Int32 × qM)} (k10 : qSnd C w 3 155 (qQf C w 155 155 jI) qfin 155 21 j10) (k29 : qSnd C w 3 155 (qQf C w 155 155 jI) qfin 155 58 j29) : qSnd C w 3 155 (qQf C w 155 155 jI) qfin 155 0 (tX11_may_0 j10 j29) :=
  cLa (pc := 0) h dX11_may_0 rfl (gGf (pc := 1) h dX11_may_1 ff_X11_53_0 (Nat.le_of_ble_eq_true rfl) (Nat.le_of_ble_eq_true rfl) rfl (cLi (pc := 4) h dX11_may_4 rfl (kCi (pc := 5) h (kd_X11_196 h dX11_may_5) spX4_isAsk (by decide) (by decide) (by decide) (by decide) (jEq (pc := 8) h dX11_may_8 rfl (k10) (cLi (pc := 11) h dX11_may_11 rfl (cC (pc := 12) h dX11_may_12 rfl (cB (pc := 13) h dX11_may_13 rfl (kCi (pc := 15) h (kd_X11_103 h dX11_may_15) spX11_within (by decide) (by decide) (by decide) (by decide) (jNe (pc := 18) h dX11_may_18 rfl (cLa (pc := 24) h dX11_may_24 rfl (gGf (pc := 25) h dX11_may_25 ff_X11_53_0 (Nat.le_of_ble_eq_true rfl) (Nat.le_of_ble_eq_true rfl) rfl (cLi (pc := 28) h dX11_may_28 rfl (kCi (pc := 29) h (kd_X11_199 h dX11_may_29) spX4_isLaid (by decide) (by decide) (by decide) (by decide) (jEq (pc := 32) h dX11_may_32 rfl (cLa (pc := 38) h dX11_may_38 rfl (gGf (pc := 39) h dX11_may_39 ff_X11_53_0 (Nat.le_of_ble_eq_true rfl) (Nat.le_of_ble_eq_true rfl) rfl (cLi (pc := 42) h dX11_may_42 rfl (kCi (pc := 43) h (kd_X11_202 h dX11_may_43) spX4_openSlots (by decide) (by decide) (by decide) (by decide) (cLi (pc := 46) h dX11_may_46 rfl (kCi (pc := 47) h (kd_X11_205 h dX11_may_47) spX11_has (by decide) (by decide) (by decide) (by decide) (jEq (pc := 50) h dX11_may_50 rfl (cC (pc := 57) h dX11_may_57 rfl (k29)) (cC (pc := 53) h dX11_may_53 rfl (jGo (pc := 54) h dX11_may_54 rfl (k29)))))))))) (cB (pc := 35) h dX11_may_35 rfl (zI (pc := 37) h hm (Nat.le_refl _) dX11_may_37))))))) (k10))))))))))
set_option maxRecDepth 20000 in
theorem lX11_may_0 (a1 : Int32) (a2 : Int32) (m : qM) : tX11_may_0 (wX11_may_10 fX11_may_10) (wX11_may_29 fX11_may_29) [some (.ref 0), some (.int a1), some (.int a2)] [] m = fX11_may_0 a1 a2 m := rfl
noncomputable def GX11_may : qG Int32 := fun av m => match av with
  | [.ref 0, .int a1, .int a2] => fX11_may a1 a2 m
  | _ => none
theorem spX11_may : qSpI yX11_may (.code yX11_may cX11_may 3 (some .int)) 4 qfin 155 155 1 GX11_may := by
  intro av m x m' hG
  unfold GX11_may at hG
  split at hG
  · rename_i a1 a2
    rw [fX11_may_d] at hG
    exact ⟨qmeet (J := jI) (r := (x, m')) (av := [.ref 0, .int a1, .int a2]) (by decide +kernel) (Nat.le_of_ble_eq_true rfl) (fun C w h hm hx hn => sX11_may_0 h hm hx (bX11_may_10 h hm hx) (bX11_may_29 h hm hx)) ((lX11_may_0 _ _ _).trans hG) (Nat.le_of_ble_eq_true rfl), Or.inl ⟨0, _, 11, _, _, rfl, by decide, rfl, qCk_11, rfl⟩⟩
  · cases hG
theorem ml_X11_209 : Jvm.Cond.methodLink RX11 209 yX4_put ∈ qTw := qm4 (List.mem_of_getElem? (i := 104) (by decide +kernel)) (by decide +kernel)
theorem kd_X11_209 {C : qCx} {w : qWp} {cc : ByteArray} {nL dp n0 n1 pc : Nat} (h : qOk C w RX11 cc nL dp n0 n1) (d : decode cc pc = .ok (.invokevirtual 209, 3)) : qCallOk C w nL dp n0 n1 pc 3 1 yX4_put (.code yX4_put cX4_put 3 none) := kindV h d ml_X11_209 im_X4_put se_X4_put in_ParentEve_Plan co_X4_put yk_X4_put (by decide)
theorem dX11_lay_0 : decode cX11_lay 0 = .ok (.aload_n 0, 1) := by decide +kernel
theorem dX11_lay_1 : decode cX11_lay 1 = .ok (.getfield 53, 3) := by decide +kernel
theorem dX11_lay_4 : decode cX11_lay 4 = .ok (.iload_n 1, 1) := by decide +kernel
theorem dX11_lay_5 : decode cX11_lay 5 = .ok (.invokevirtual 196, 3) := by decide +kernel
theorem dX11_lay_8 : decode cX11_lay 8 = .ok (.ifCond .eq 13, 3) := by decide +kernel
theorem dX11_lay_11 : decode cX11_lay 11 = .ok (.iload_n 2, 1) := by decide +kernel
theorem dX11_lay_12 : decode cX11_lay 12 = .ok (.iconst 0, 1) := by decide +kernel
theorem dX11_lay_13 : decode cX11_lay 13 = .ok (.bipush 19, 2) := by decide +kernel
theorem dX11_lay_15 : decode cX11_lay 15 = .ok (.invokestatic 103, 3) := by decide +kernel
theorem dX11_lay_18 : decode cX11_lay 18 = .ok (.ifCond .ne 6, 3) := by decide +kernel
theorem dX11_lay_21 : decode cX11_lay 21 = .ok (.bipush (-2), 2) := by decide +kernel
theorem dX11_lay_23 : decode cX11_lay 23 = .ok (.ireturn, 1) := by decide +kernel
theorem dX11_lay_24 : decode cX11_lay 24 = .ok (.aload_n 0, 1) := by decide +kernel
theorem dX11_lay_25 : decode cX11_lay 25 = .ok (.getfield 91, 3) := by decide +kernel
theorem dX11_lay_28 : decode cX11_lay 28 = .ok (.ifCond .ne 14, 3) := by decide +kernel
theorem dX11_lay_31 : decode cX11_lay 31 = .ok (.aload_n 0, 1) := by decide +kernel
theorem dX11_lay_32 : decode cX11_lay 32 = .ok (.getfield 53, 3) := by decide +kernel
theorem dX11_lay_35 : decode cX11_lay 35 = .ok (.iload_n 1, 1) := by decide +kernel
theorem dX11_lay_36 : decode cX11_lay 36 = .ok (.invokevirtual 199, 3) := by decide +kernel
theorem dX11_lay_39 : decode cX11_lay 39 = .ok (.ifCond .eq 6, 3) := by decide +kernel
theorem dX11_lay_42 : decode cX11_lay 42 = .ok (.bipush (-4), 2) := by decide +kernel
theorem dX11_lay_44 : decode cX11_lay 44 = .ok (.ireturn, 1) := by decide +kernel
theorem dX11_lay_45 : decode cX11_lay 45 = .ok (.aload_n 0, 1) := by decide +kernel
theorem dX11_lay_46 : decode cX11_lay 46 = .ok (.getfield 53, 3) := by decide +kernel
theorem dX11_lay_49 : decode cX11_lay 49 = .ok (.iload_n 1, 1) := by decide +kernel
theorem dX11_lay_50 : decode cX11_lay 50 = .ok (.invokevirtual 202, 3) := by decide +kernel
theorem dX11_lay_53 : decode cX11_lay 53 = .ok (.iload_n 2, 1) := by decide +kernel
theorem dX11_lay_54 : decode cX11_lay 54 = .ok (.invokestatic 205, 3) := by decide +kernel
theorem dX11_lay_57 : decode cX11_lay 57 = .ok (.ifCond .ne 5, 3) := by decide +kernel
theorem dX11_lay_60 : decode cX11_lay 60 = .ok (.iconst 0, 1) := by decide +kernel
theorem dX11_lay_61 : decode cX11_lay 61 = .ok (.ireturn, 1) := by decide +kernel
theorem dX11_lay_62 : decode cX11_lay 62 = .ok (.aload_n 0, 1) := by decide +kernel
theorem dX11_lay_63 : decode cX11_lay 63 = .ok (.getfield 53, 3) := by decide +kernel
theorem dX11_lay_66 : decode cX11_lay 66 = .ok (.iload_n 1, 1) := by decide +kernel
theorem dX11_lay_67 : decode cX11_lay 67 = .ok (.iload_n 2, 1) := by decide +kernel
theorem dX11_lay_68 : decode cX11_lay 68 = .ok (.invokevirtual 209, 3) := by decide +kernel
theorem dX11_lay_71 : decode cX11_lay 71 = .ok (.iconst 1, 1) := by decide +kernel
theorem dX11_lay_72 : decode cX11_lay 72 = .ok (.ireturn, 1) := by decide +kernel
noncomputable def tX11_lay_10 : qT (Int32 × qM) :=
  oC (.int (-2 : Int32)) (eI)
noncomputable def wX11_lay_10 (k : qM → Option (Int32 × qM)) : qT (Int32 × qM) := fun lo st m => match lo, st with
  | [_, _, _], [] => k m
  | _, _ => none
set_option maxRecDepth 20000 in
theorem sX11_lay_10 {C : qCx} {w : qWp} (h : qOk C w RX11 cX11_lay 3 4 155 155) (hm : qMt C (some .int)) (hx : qNx C) : qSnd C w 3 155 (qQf C w 155 155 jI) qfin 155 21 (tX11_lay_10) :=
  cB (pc := 21) h dX11_lay_21 rfl (zI (pc := 23) h hm (Nat.le_refl _) dX11_lay_23)
set_option maxRecDepth 20000 in
theorem lX11_lay_10 (m : qM) : tX11_lay_10 [none, none, none] [] m = fX11_lay_10 m := rfl
theorem bX11_lay_10 {C : qCx} {w : qWp} (h : qOk C w RX11 cX11_lay 3 4 155 155) (hm : qMt C (some .int)) (hx : qNx C) : qSnd C w 3 155 (qQf C w 155 155 jI) qfin 155 21 (wX11_lay_10 fX11_lay_10) :=
  qSnd_of (fun lo st m x hr0 => by
    unfold wX11_lay_10 at hr0
    split at hr0
    · exact ⟨_, (qsub_n (qsub_n (qsub_n qsub_nil))), (lX11_lay_10 _).trans hr0⟩
    · cases hr0) (sX11_lay_10 h hm hx)
noncomputable def tX11_lay_20 : qT (Int32 × qM) :=
  oC (.int (-4 : Int32)) (eI)
noncomputable def wX11_lay_20 (k : qM → Option (Int32 × qM)) : qT (Int32 × qM) := fun lo st m => match lo, st with
  | [_, _, _], [] => k m
  | _, _ => none
set_option maxRecDepth 20000 in
theorem sX11_lay_20 {C : qCx} {w : qWp} (h : qOk C w RX11 cX11_lay 3 4 155 155) (hm : qMt C (some .int)) (hx : qNx C) : qSnd C w 3 155 (qQf C w 155 155 jI) qfin 155 42 (tX11_lay_20) :=
  cB (pc := 42) h dX11_lay_42 rfl (zI (pc := 44) h hm (Nat.le_refl _) dX11_lay_44)
set_option maxRecDepth 20000 in
theorem lX11_lay_20 (m : qM) : tX11_lay_20 [none, none, none] [] m = fX11_lay_20 m := rfl
theorem bX11_lay_20 {C : qCx} {w : qWp} (h : qOk C w RX11 cX11_lay 3 4 155 155) (hm : qMt C (some .int)) (hx : qNx C) : qSnd C w 3 155 (qQf C w 155 155 jI) qfin 155 42 (wX11_lay_20 fX11_lay_20) :=
  qSnd_of (fun lo st m x hr0 => by
    unfold wX11_lay_20 at hr0
    split at hr0
    · exact ⟨_, (qsub_n (qsub_n (qsub_n qsub_nil))), (lX11_lay_20 _).trans hr0⟩
    · cases hr0) (sX11_lay_20 h hm hx)
noncomputable def tX11_lay_0 (j10 : qT (Int32 × qM)) (j20 : qT (Int32 × qM)) : qT (Int32 × qM) :=
  oLa 0 (oGf 0 5 58 (oLi 1 (oCi GX4_isAsk 2 (oEq (j10) (oLi 2 (oC (.int (0 : Int32)) (oC (.int (19 : Int32)) (oCi GX11_within 3 (oEq (j10) (oLa 0 (oGi 0 10 (oEq (oLa 0 (oGf 0 5 58 (oLi 1 (oCi GX4_isLaid 2 (oEq (oLa 0 (oGf 0 5 58 (oLi 1 (oCi GX4_openSlots 2 (oLi 2 (oCi GX11_has 2 (oEq (oC (.int (0 : Int32)) (eI)) (oLa 0 (oGf 0 5 58 (oLi 1 (oLi 2 (oCv GX4_put 3 (oC (.int (1 : Int32)) (eI)))))))))))))) (j20)))))) (j20)))))))))))))
set_option maxRecDepth 20000 in
theorem sX11_lay_0 {C : qCx} {w : qWp} (h : qOk C w RX11 cX11_lay 3 4 155 155) (hm : qMt C (some .int)) (hx : qNx C) {j10 : qT (Int32 × qM)} {j20 : qT (Int32 × qM)} (k10 : qSnd C w 3 155 (qQf C w 155 155 jI) qfin 155 21 j10) (k20 : qSnd C w 3 155 (qQf C w 155 155 jI) qfin 155 42 j20) : qSnd C w 3 155 (qQf C w 155 155 jI) qfin 155 0 (tX11_lay_0 j10 j20) :=
  cLa (pc := 0) h dX11_lay_0 rfl (gGf (pc := 1) h dX11_lay_1 ff_X11_53_0 (Nat.le_of_ble_eq_true rfl) (Nat.le_of_ble_eq_true rfl) rfl (cLi (pc := 4) h dX11_lay_4 rfl (kCi (pc := 5) h (kd_X11_196 h dX11_lay_5) spX4_isAsk (by decide) (by decide) (by decide) (by decide) (jEq (pc := 8) h dX11_lay_8 rfl (k10) (cLi (pc := 11) h dX11_lay_11 rfl (cC (pc := 12) h dX11_lay_12 rfl (cB (pc := 13) h dX11_lay_13 rfl (kCi (pc := 15) h (kd_X11_103 h dX11_lay_15) spX11_within (by decide) (by decide) (by decide) (by decide) (jNe (pc := 18) h dX11_lay_18 rfl (cLa (pc := 24) h dX11_lay_24 rfl (gGz (pc := 25) h dX11_lay_25 ff_X11_91_0 (Nat.le_of_ble_eq_true rfl) (Nat.le_of_ble_eq_true rfl) (jNe (pc := 28) h dX11_lay_28 rfl (k20) (cLa (pc := 31) h dX11_lay_31 rfl (gGf (pc := 32) h dX11_lay_32 ff_X11_53_0 (Nat.le_of_ble_eq_true rfl) (Nat.le_of_ble_eq_true rfl) rfl (cLi (pc := 35) h dX11_lay_35 rfl (kCi (pc := 36) h (kd_X11_199 h dX11_lay_36) spX4_isLaid (by decide) (by decide) (by decide) (by decide) (jEq (pc := 39) h dX11_lay_39 rfl (cLa (pc := 45) h dX11_lay_45 rfl (gGf (pc := 46) h dX11_lay_46 ff_X11_53_0 (Nat.le_of_ble_eq_true rfl) (Nat.le_of_ble_eq_true rfl) rfl (cLi (pc := 49) h dX11_lay_49 rfl (kCi (pc := 50) h (kd_X11_202 h dX11_lay_50) spX4_openSlots (by decide) (by decide) (by decide) (by decide) (cLi (pc := 53) h dX11_lay_53 rfl (kCi (pc := 54) h (kd_X11_205 h dX11_lay_54) spX11_has (by decide) (by decide) (by decide) (by decide) (jNe (pc := 57) h dX11_lay_57 rfl (cLa (pc := 62) h dX11_lay_62 rfl (gGf (pc := 63) h dX11_lay_63 ff_X11_53_0 (Nat.le_of_ble_eq_true rfl) (Nat.le_of_ble_eq_true rfl) rfl (cLi (pc := 66) h dX11_lay_66 rfl (cLi (pc := 67) h dX11_lay_67 rfl (kCv (pc := 68) h (kd_X11_209 h dX11_lay_68) spX4_put (by decide) (by decide) (by decide) (by decide) (cC (pc := 71) h dX11_lay_71 rfl (zI (pc := 72) h hm (Nat.le_refl _) dX11_lay_72))))))) (cC (pc := 60) h dX11_lay_60 rfl (zI (pc := 61) h hm (Nat.le_refl _) dX11_lay_61))))))))) (k20))))))))) (k10))))))))))
set_option maxRecDepth 20000 in
theorem lX11_lay_0 (a1 : Int32) (a2 : Int32) (m : qM) : tX11_lay_0 (wX11_lay_10 fX11_lay_10) (wX11_lay_20 fX11_lay_20) [some (.ref 0), some (.int a1), some (.int a2)] [] m = fX11_lay_0 a1 a2 m := rfl
noncomputable def GX11_lay : qG Int32 := fun av m => match av with
  | [.ref 0, .int a1, .int a2] => fX11_lay a1 a2 m
  | _ => none
theorem spX11_lay : qSpI yX11_lay (.code yX11_lay cX11_lay 3 (some .int)) 4 qfin 155 155 1 GX11_lay := by
  intro av m x m' hG
  unfold GX11_lay at hG
  split at hG
  · rename_i a1 a2
    rw [fX11_lay_d] at hG
    exact ⟨qmeet (J := jI) (r := (x, m')) (av := [.ref 0, .int a1, .int a2]) (by decide +kernel) (Nat.le_of_ble_eq_true rfl) (fun C w h hm hx hn => sX11_lay_0 h hm hx (bX11_lay_10 h hm hx) (bX11_lay_20 h hm hx)) ((lX11_lay_0 _ _ _).trans hG) (Nat.le_of_ble_eq_true rfl), Or.inl ⟨0, _, 11, _, _, rfl, by decide, rfl, qCk_11, rfl⟩⟩
  · cases hG
theorem ml_X11_212 : Jvm.Cond.methodLink RX11 212 yX4_take ∈ qTw := qm4 (List.mem_of_getElem? (i := 137) (by decide +kernel)) (by decide +kernel)
theorem kd_X11_212 {C : qCx} {w : qWp} {cc : ByteArray} {nL dp n0 n1 pc : Nat} (h : qOk C w RX11 cc nL dp n0 n1) (d : decode cc pc = .ok (.invokevirtual 212, 3)) : qCallOk C w nL dp n0 n1 pc 2 1 yX4_take (.code yX4_take cX4_take 3 (some .int)) := kindV h d ml_X11_212 im_X4_take se_X4_take in_ParentEve_Plan co_X4_take yk_X4_take (by decide)
theorem dX11_lift_0 : decode cX11_lift 0 = .ok (.aload_n 0, 1) := by decide +kernel
theorem dX11_lift_1 : decode cX11_lift 1 = .ok (.getfield 53, 3) := by decide +kernel
theorem dX11_lift_4 : decode cX11_lift 4 = .ok (.iload_n 1, 1) := by decide +kernel
theorem dX11_lift_5 : decode cX11_lift 5 = .ok (.invokevirtual 196, 3) := by decide +kernel
theorem dX11_lift_8 : decode cX11_lift 8 = .ok (.ifCond .ne 6, 3) := by decide +kernel
theorem dX11_lift_11 : decode cX11_lift 11 = .ok (.bipush (-2), 2) := by decide +kernel
theorem dX11_lift_13 : decode cX11_lift 13 = .ok (.ireturn, 1) := by decide +kernel
theorem dX11_lift_14 : decode cX11_lift 14 = .ok (.aload_n 0, 1) := by decide +kernel
theorem dX11_lift_15 : decode cX11_lift 15 = .ok (.getfield 91, 3) := by decide +kernel
theorem dX11_lift_18 : decode cX11_lift 18 = .ok (.ifCond .ne 14, 3) := by decide +kernel
theorem dX11_lift_21 : decode cX11_lift 21 = .ok (.aload_n 0, 1) := by decide +kernel
theorem dX11_lift_22 : decode cX11_lift 22 = .ok (.getfield 53, 3) := by decide +kernel
theorem dX11_lift_25 : decode cX11_lift 25 = .ok (.iload_n 1, 1) := by decide +kernel
theorem dX11_lift_26 : decode cX11_lift 26 = .ok (.invokevirtual 199, 3) := by decide +kernel
theorem dX11_lift_29 : decode cX11_lift 29 = .ok (.ifCond .ne 6, 3) := by decide +kernel
theorem dX11_lift_32 : decode cX11_lift 32 = .ok (.bipush (-4), 2) := by decide +kernel
theorem dX11_lift_34 : decode cX11_lift 34 = .ok (.ireturn, 1) := by decide +kernel
theorem dX11_lift_35 : decode cX11_lift 35 = .ok (.aload_n 0, 1) := by decide +kernel
theorem dX11_lift_36 : decode cX11_lift 36 = .ok (.getfield 53, 3) := by decide +kernel
theorem dX11_lift_39 : decode cX11_lift 39 = .ok (.iload_n 1, 1) := by decide +kernel
theorem dX11_lift_40 : decode cX11_lift 40 = .ok (.invokevirtual 212, 3) := by decide +kernel
theorem dX11_lift_43 : decode cX11_lift 43 = .ok (.ireturn, 1) := by decide +kernel
noncomputable def tX11_lift_15 : qT (Int32 × qM) :=
  oC (.int (-4 : Int32)) (eI)
noncomputable def wX11_lift_15 (k : qM → Option (Int32 × qM)) : qT (Int32 × qM) := fun lo st m => match lo, st with
  | [_, _], [] => k m
  | _, _ => none
set_option maxRecDepth 20000 in
theorem sX11_lift_15 {C : qCx} {w : qWp} (h : qOk C w RX11 cX11_lift 2 4 155 155) (hm : qMt C (some .int)) (hx : qNx C) : qSnd C w 2 155 (qQf C w 155 155 jI) qfin 155 32 (tX11_lift_15) :=
  cB (pc := 32) h dX11_lift_32 rfl (zI (pc := 34) h hm (Nat.le_refl _) dX11_lift_34)
set_option maxRecDepth 20000 in
theorem lX11_lift_15 (m : qM) : tX11_lift_15 [none, none] [] m = fX11_lift_15 m := rfl
theorem bX11_lift_15 {C : qCx} {w : qWp} (h : qOk C w RX11 cX11_lift 2 4 155 155) (hm : qMt C (some .int)) (hx : qNx C) : qSnd C w 2 155 (qQf C w 155 155 jI) qfin 155 32 (wX11_lift_15 fX11_lift_15) :=
  qSnd_of (fun lo st m x hr0 => by
    unfold wX11_lift_15 at hr0
    split at hr0
    · exact ⟨_, (qsub_n (qsub_n qsub_nil)), (lX11_lift_15 _).trans hr0⟩
    · cases hr0) (sX11_lift_15 h hm hx)
noncomputable def tX11_lift_0 (j15 : qT (Int32 × qM)) : qT (Int32 × qM) :=
  oLa 0 (oGf 0 5 58 (oLi 1 (oCi GX4_isAsk 2 (oEq (oC (.int (-2 : Int32)) (eI)) (oLa 0 (oGi 0 10 (oEq (oLa 0 (oGf 0 5 58 (oLi 1 (oCi GX4_isLaid 2 (oEq (j15) (oLa 0 (oGf 0 5 58 (oLi 1 (oCi GX4_take 2 (eI)))))))))) (j15))))))))
set_option maxRecDepth 20000 in
theorem sX11_lift_0 {C : qCx} {w : qWp} (h : qOk C w RX11 cX11_lift 2 4 155 155) (hm : qMt C (some .int)) (hx : qNx C) {j15 : qT (Int32 × qM)} (k15 : qSnd C w 2 155 (qQf C w 155 155 jI) qfin 155 32 j15) : qSnd C w 2 155 (qQf C w 155 155 jI) qfin 155 0 (tX11_lift_0 j15) :=
  cLa (pc := 0) h dX11_lift_0 rfl (gGf (pc := 1) h dX11_lift_1 ff_X11_53_0 (Nat.le_of_ble_eq_true rfl) (Nat.le_of_ble_eq_true rfl) rfl (cLi (pc := 4) h dX11_lift_4 rfl (kCi (pc := 5) h (kd_X11_196 h dX11_lift_5) spX4_isAsk (by decide) (by decide) (by decide) (by decide) (jNe (pc := 8) h dX11_lift_8 rfl (cLa (pc := 14) h dX11_lift_14 rfl (gGz (pc := 15) h dX11_lift_15 ff_X11_91_0 (Nat.le_of_ble_eq_true rfl) (Nat.le_of_ble_eq_true rfl) (jNe (pc := 18) h dX11_lift_18 rfl (k15) (cLa (pc := 21) h dX11_lift_21 rfl (gGf (pc := 22) h dX11_lift_22 ff_X11_53_0 (Nat.le_of_ble_eq_true rfl) (Nat.le_of_ble_eq_true rfl) rfl (cLi (pc := 25) h dX11_lift_25 rfl (kCi (pc := 26) h (kd_X11_199 h dX11_lift_26) spX4_isLaid (by decide) (by decide) (by decide) (by decide) (jNe (pc := 29) h dX11_lift_29 rfl (cLa (pc := 35) h dX11_lift_35 rfl (gGf (pc := 36) h dX11_lift_36 ff_X11_53_0 (Nat.le_of_ble_eq_true rfl) (Nat.le_of_ble_eq_true rfl) rfl (cLi (pc := 39) h dX11_lift_39 rfl (kCi (pc := 40) h (kd_X11_212 h dX11_lift_40) spX4_take (by decide) (by decide) (by decide) (by decide) (zI (pc := 43) h hm (Nat.le_refl _) dX11_lift_43))))) (k15))))))))) (cB (pc := 11) h dX11_lift_11 rfl (zI (pc := 13) h hm (Nat.le_refl _) dX11_lift_13))))))
set_option maxRecDepth 20000 in
theorem lX11_lift_0 (a1 : Int32) (m : qM) : tX11_lift_0 (wX11_lift_15 fX11_lift_15) [some (.ref 0), some (.int a1)] [] m = fX11_lift_0 a1 m := rfl
noncomputable def GX11_lift : qG Int32 := fun av m => match av with
  | [.ref 0, .int a1] => fX11_lift a1 m
  | _ => none
theorem spX11_lift : qSpI yX11_lift (.code yX11_lift cX11_lift 2 (some .int)) 4 qfin 155 155 1 GX11_lift := by
  intro av m x m' hG
  unfold GX11_lift at hG
  split at hG
  · rename_i a1
    rw [fX11_lift_d] at hG
    exact ⟨qmeet (J := jI) (r := (x, m')) (av := [.ref 0, .int a1]) (by decide +kernel) (Nat.le_of_ble_eq_true rfl) (fun C w h hm hx hn => sX11_lift_0 h hm hx (bX11_lift_15 h hm hx)) ((lX11_lift_0 _ _).trans hG) (Nat.le_of_ble_eq_true rfl), Or.inl ⟨0, _, 11, _, _, rfl, by decide, rfl, qCk_11, rfl⟩⟩
  · cases hG
theorem im_X0_layEveryOne : Jvm.Cond.instanceMethod yX0_layEveryOne ∈ qTw := qm4 (List.mem_of_getElem? (i := 146) (by decide +kernel)) (by decide +kernel)
theorem se_X0_layEveryOne : Jvm.Cond.selects yX0_layEveryOne.cls yX0_layEveryOne yX0_layEveryOne ∈ qTw := qm4 (List.mem_of_getElem? (i := 147) (by decide +kernel)) (by decide +kernel)
theorem co_X0_layEveryOne : Jvm.Cond.code yX0_layEveryOne cX0_layEveryOne 2 (some .int) ∈ qTw := qm4 (List.mem_of_getElem? (i := 148) (by decide +kernel)) (by decide +kernel)
theorem yk_X0_layEveryOne : qYk yX0_layEveryOne 0 := ⟨⟨by decide +kernel, by decide +kernel⟩, by decide +kernel⟩
theorem ml_X11_215 : Jvm.Cond.methodLink RX11 215 yX0_layEveryOne ∈ qTw := qm4 (List.mem_of_getElem? (i := 145) (by decide +kernel)) (by decide +kernel)
theorem kd_X11_215 {C : qCx} {w : qWp} {cc : ByteArray} {nL dp n0 n1 pc : Nat} (h : qOk C w RX11 cc nL dp n0 n1) (d : decode cc pc = .ok (.invokevirtual 215, 3)) : qCallOk C w nL dp n0 n1 pc 1 1 yX0_layEveryOne (.code yX0_layEveryOne cX0_layEveryOne 2 (some .int)) := kindV h d ml_X11_215 im_X0_layEveryOne se_X0_layEveryOne in_ParentEve_Chooser co_X0_layEveryOne yk_X0_layEveryOne (by decide)
theorem dX11_layAll_0 : decode cX11_layAll 0 = .ok (.aload_n 0, 1) := by decide +kernel
theorem dX11_layAll_1 : decode cX11_layAll 1 = .ok (.getfield 91, 3) := by decide +kernel
theorem dX11_layAll_4 : decode cX11_layAll 4 = .ok (.ifCond .eq 8, 3) := by decide +kernel
theorem dX11_layAll_7 : decode cX11_layAll 7 = .ok (.bipush (-4), 2) := by decide +kernel
theorem dX11_layAll_9 : decode cX11_layAll 9 = .ok (.goto 10, 3) := by decide +kernel
theorem dX11_layAll_12 : decode cX11_layAll 12 = .ok (.aload_n 0, 1) := by decide +kernel
theorem dX11_layAll_13 : decode cX11_layAll 13 = .ok (.getfield 62, 3) := by decide +kernel
theorem dX11_layAll_16 : decode cX11_layAll 16 = .ok (.invokevirtual 215, 3) := by decide +kernel
theorem dX11_layAll_19 : decode cX11_layAll 19 = .ok (.ireturn, 1) := by decide +kernel
noncomputable def tX11_layAll_8 : qT (Int32 × qM) :=
  eI
noncomputable def wX11_layAll_8 (k : Int32 → qM → Option (Int32 × qM)) : qT (Int32 × qM) := fun lo st m => match lo, st with
  | [_], [.int s0] => k s0 m
  | _, _ => none
set_option maxRecDepth 20000 in
theorem sX11_layAll_8 {C : qCx} {w : qWp} (h : qOk C w RX11 cX11_layAll 1 7 155 155) (hm : qMt C (some .int)) (hx : qNx C) : qSnd C w 1 155 (qQf C w 155 155 jI) qfin 155 19 (tX11_layAll_8) :=
  zI (pc := 19) h hm (Nat.le_refl _) dX11_layAll_19
set_option maxRecDepth 20000 in
theorem lX11_layAll_8 (s0 : Int32) (m : qM) : tX11_layAll_8 [none] [(.int s0)] m = fX11_layAll_8 s0 m := rfl
theorem bX11_layAll_8 {C : qCx} {w : qWp} (h : qOk C w RX11 cX11_layAll 1 7 155 155) (hm : qMt C (some .int)) (hx : qNx C) : qSnd C w 1 155 (qQf C w 155 155 jI) qfin 155 19 (wX11_layAll_8 fX11_layAll_8) :=
  qSnd_of (fun lo st m x hr0 => by
    unfold wX11_layAll_8 at hr0
    split at hr0
    · exact ⟨_, (qsub_n qsub_nil), (lX11_layAll_8 _ _).trans hr0⟩
    · cases hr0) (sX11_layAll_8 h hm hx)
noncomputable def tX11_layAll_0 (j8 : qT (Int32 × qM)) : qT (Int32 × qM) :=
  oLa 0 (oGi 0 10 (oEq (oLa 0 (oGf 0 6 68 (oCi GX0_layEveryOne 1 (j8)))) (oC (.int (-4 : Int32)) (j8))))
set_option maxRecDepth 20000 in
theorem sX11_layAll_0 {C : qCx} {w : qWp} (h : qOk C w RX11 cX11_layAll 1 7 155 155) (hm : qMt C (some .int)) (hx : qNx C) {j8 : qT (Int32 × qM)} (k8 : qSnd C w 1 155 (qQf C w 155 155 jI) qfin 155 19 j8) : qSnd C w 1 155 (qQf C w 155 155 jI) qfin 155 0 (tX11_layAll_0 j8) :=
  cLa (pc := 0) h dX11_layAll_0 rfl (gGz (pc := 1) h dX11_layAll_1 ff_X11_91_0 (Nat.le_of_ble_eq_true rfl) (Nat.le_of_ble_eq_true rfl) (jEq (pc := 4) h dX11_layAll_4 rfl (cLa (pc := 12) h dX11_layAll_12 rfl (gGf (pc := 13) h dX11_layAll_13 ff_X11_62_0 (Nat.le_of_ble_eq_true rfl) (Nat.le_of_ble_eq_true rfl) rfl (kCi (pc := 16) h (kd_X11_215 h dX11_layAll_16) spX0_layEveryOne (by decide) (by decide) (by decide) (by decide) (k8)))) (cB (pc := 7) h dX11_layAll_7 rfl (jGo (pc := 9) h dX11_layAll_9 rfl (k8)))))
set_option maxRecDepth 20000 in
theorem lX11_layAll_0 (m : qM) : tX11_layAll_0 (wX11_layAll_8 fX11_layAll_8) [some (.ref 0)] [] m = fX11_layAll_0 m := rfl
noncomputable def GX11_layAll : qG Int32 := fun av m => match av with
  | [.ref 0] => fX11_layAll m
  | _ => none
theorem spX11_layAll : qSpI yX11_layAll (.code yX11_layAll cX11_layAll 1 (some .int)) 7 qfin 155 155 1 GX11_layAll := by
  intro av m x m' hG
  unfold GX11_layAll at hG
  split at hG
  · rw [fX11_layAll_d] at hG
    exact ⟨qmeet (J := jI) (r := (x, m')) (av := [.ref 0]) (by decide +kernel) (Nat.le_of_ble_eq_true rfl) (fun C w h hm hx hn => sX11_layAll_0 h hm hx (bX11_layAll_8 h hm hx)) ((lX11_layAll_0 _).trans hG) (Nat.le_of_ble_eq_true rfl), Or.inl ⟨0, _, 11, _, _, rfl, by decide, rfl, qCk_11, rfl⟩⟩
  · cases hG
theorem im_X0_clear : Jvm.Cond.instanceMethod yX0_clear ∈ qTw := qm4 (List.mem_of_getElem? (i := 180) (by decide +kernel)) (by decide +kernel)
theorem se_X0_clear : Jvm.Cond.selects yX0_clear.cls yX0_clear yX0_clear ∈ qTw := qm4 (List.mem_of_getElem? (i := 181) (by decide +kernel)) (by decide +kernel)
theorem co_X0_clear : Jvm.Cond.code yX0_clear cX0_clear 1 none ∈ qTw := qm4 (List.mem_of_getElem? (i := 182) (by decide +kernel)) (by decide +kernel)
theorem yk_X0_clear : qYk yX0_clear 0 := ⟨⟨by decide +kernel, by decide +kernel⟩, by decide +kernel⟩
theorem ml_X11_228 : Jvm.Cond.methodLink RX11 228 yX0_clear ∈ qTw := qm4 (List.mem_of_getElem? (i := 179) (by decide +kernel)) (by decide +kernel)
theorem kd_X11_228 {C : qCx} {w : qWp} {cc : ByteArray} {nL dp n0 n1 pc : Nat} (h : qOk C w RX11 cc nL dp n0 n1) (d : decode cc pc = .ok (.invokevirtual 228, 3)) : qCallOk C w nL dp n0 n1 pc 1 1 yX0_clear (.code yX0_clear cX0_clear 1 none) := kindV h d ml_X11_228 im_X0_clear se_X0_clear in_ParentEve_Chooser co_X0_clear yk_X0_clear (by decide)
theorem fc_X11_234 : Jvm.Cond.constant RX11 234 (1048575 : Int32) ∈ qTw := qm4 (List.mem_of_getElem? (i := 187) (by decide +kernel)) (by decide +kernel)
theorem ml_X11_235 : Jvm.Cond.methodLink RX11 235 yX0_layPicked ∈ qTw := qm4 (List.mem_of_getElem? (i := 188) (by decide +kernel)) (by decide +kernel)
theorem kd_X11_235 {C : qCx} {w : qWp} {cc : ByteArray} {nL dp n0 n1 pc : Nat} (h : qOk C w RX11 cc nL dp n0 n1) (d : decode cc pc = .ok (.invokevirtual 235, 3)) : qCallOk C w nL dp n0 n1 pc 2 1 yX0_layPicked (.code yX0_layPicked cX0_layPicked 4 (some .int)) := kindV h d ml_X11_235 im_X0_layPicked se_X0_layPicked in_ParentEve_Chooser co_X0_layPicked yk_X0_layPicked (by decide)
theorem im_X0_pick : Jvm.Cond.instanceMethod yX0_pick ∈ qTw := qm4 (List.mem_of_getElem? (i := 184) (by decide +kernel)) (by decide +kernel)
theorem se_X0_pick : Jvm.Cond.selects yX0_pick.cls yX0_pick yX0_pick ∈ qTw := qm4 (List.mem_of_getElem? (i := 185) (by decide +kernel)) (by decide +kernel)
theorem co_X0_pick : Jvm.Cond.code yX0_pick cX0_pick 2 none ∈ qTw := qm4 (List.mem_of_getElem? (i := 186) (by decide +kernel)) (by decide +kernel)
theorem yk_X0_pick : qYk yX0_pick 1 := ⟨⟨by decide +kernel, by decide +kernel⟩, by decide +kernel⟩
theorem ml_X11_231 : Jvm.Cond.methodLink RX11 231 yX0_pick ∈ qTw := qm4 (List.mem_of_getElem? (i := 183) (by decide +kernel)) (by decide +kernel)
theorem kd_X11_231 {C : qCx} {w : qWp} {cc : ByteArray} {nL dp n0 n1 pc : Nat} (h : qOk C w RX11 cc nL dp n0 n1) (d : decode cc pc = .ok (.invokevirtual 231, 3)) : qCallOk C w nL dp n0 n1 pc 2 1 yX0_pick (.code yX0_pick cX0_pick 2 none) := kindV h d ml_X11_231 im_X0_pick se_X0_pick in_ParentEve_Chooser co_X0_pick yk_X0_pick (by decide)
theorem dX11_best_0 : decode cX11_best 0 = .ok (.iload_n 1, 1) := by decide +kernel
theorem dX11_best_1 : decode cX11_best 1 = .ok (.iconst 1, 1) := by decide +kernel
theorem dX11_best_2 : decode cX11_best 2 = .ok (.if_icmp .lt 20, 3) := by decide +kernel
theorem dX11_best_5 : decode cX11_best 5 = .ok (.iload_n 1, 1) := by decide +kernel
theorem dX11_best_6 : decode cX11_best 6 = .ok (.aload_n 0, 1) := by decide +kernel
theorem dX11_best_7 : decode cX11_best 7 = .ok (.getfield 53, 3) := by decide +kernel
theorem dX11_best_10 : decode cX11_best 10 = .ok (.invokevirtual 189, 3) := by decide +kernel
theorem dX11_best_13 : decode cX11_best 13 = .ok (.bipush 30, 2) := by decide +kernel
theorem dX11_best_15 : decode cX11_best 15 = .ok (.invokestatic 218, 3) := by decide +kernel
theorem dX11_best_18 : decode cX11_best 18 = .ok (.ishr, 1) := by decide +kernel
theorem dX11_best_19 : decode cX11_best 19 = .ok (.ifCond .eq 6, 3) := by decide +kernel
theorem dX11_best_22 : decode cX11_best 22 = .ok (.bipush (-2), 2) := by decide +kernel
theorem dX11_best_24 : decode cX11_best 24 = .ok (.ireturn, 1) := by decide +kernel
theorem dX11_best_25 : decode cX11_best 25 = .ok (.iload_n 1, 1) := by decide +kernel
theorem dX11_best_26 : decode cX11_best 26 = .ok (.invokestatic 223, 3) := by decide +kernel
theorem dX11_best_29 : decode cX11_best 29 = .ok (.iconst 4, 1) := by decide +kernel
theorem dX11_best_30 : decode cX11_best 30 = .ok (.if_icmp .le 6, 3) := by decide +kernel
theorem dX11_best_33 : decode cX11_best 33 = .ok (.bipush (-3), 2) := by decide +kernel
theorem dX11_best_35 : decode cX11_best 35 = .ok (.ireturn, 1) := by decide +kernel
theorem dX11_best_36 : decode cX11_best 36 = .ok (.aload_n 0, 1) := by decide +kernel
theorem dX11_best_37 : decode cX11_best 37 = .ok (.getfield 91, 3) := by decide +kernel
theorem dX11_best_40 : decode cX11_best 40 = .ok (.ifCond .eq 6, 3) := by decide +kernel
theorem dX11_best_43 : decode cX11_best 43 = .ok (.bipush (-4), 2) := by decide +kernel
theorem dX11_best_45 : decode cX11_best 45 = .ok (.ireturn, 1) := by decide +kernel
theorem dX11_best_46 : decode cX11_best 46 = .ok (.aload_n 0, 1) := by decide +kernel
theorem dX11_best_47 : decode cX11_best 47 = .ok (.getfield 62, 3) := by decide +kernel
theorem dX11_best_50 : decode cX11_best 50 = .ok (.invokevirtual 228, 3) := by decide +kernel
theorem dX11_best_53 : decode cX11_best 53 = .ok (.iconst 0, 1) := by decide +kernel
theorem dX11_best_54 : decode cX11_best 54 = .ok (.istore_n 2, 1) := by decide +kernel
theorem dX11_best_55 : decode cX11_best 55 = .ok (.iload_n 2, 1) := by decide +kernel
theorem dX11_best_56 : decode cX11_best 56 = .ok (.bipush 30, 2) := by decide +kernel
theorem dX11_best_58 : decode cX11_best 58 = .ok (.if_icmp .ge 39, 3) := by decide +kernel
theorem dX11_best_61 : decode cX11_best 61 = .ok (.iload_n 1, 1) := by decide +kernel
theorem dX11_best_62 : decode cX11_best 62 = .ok (.iload_n 2, 1) := by decide +kernel
theorem dX11_best_63 : decode cX11_best 63 = .ok (.invokestatic 205, 3) := by decide +kernel
theorem dX11_best_66 : decode cX11_best 66 = .ok (.ifCond .eq 25, 3) := by decide +kernel
theorem dX11_best_69 : decode cX11_best 69 = .ok (.aload_n 0, 1) := by decide +kernel
theorem dX11_best_70 : decode cX11_best 70 = .ok (.getfield 53, 3) := by decide +kernel
theorem dX11_best_73 : decode cX11_best 73 = .ok (.iload_n 2, 1) := by decide +kernel
theorem dX11_best_74 : decode cX11_best 74 = .ok (.invokevirtual 199, 3) := by decide +kernel
theorem dX11_best_77 : decode cX11_best 77 = .ok (.ifCond .eq 6, 3) := by decide +kernel
theorem dX11_best_80 : decode cX11_best 80 = .ok (.bipush (-4), 2) := by decide +kernel
theorem dX11_best_82 : decode cX11_best 82 = .ok (.ireturn, 1) := by decide +kernel
theorem dX11_best_83 : decode cX11_best 83 = .ok (.aload_n 0, 1) := by decide +kernel
theorem dX11_best_84 : decode cX11_best 84 = .ok (.getfield 62, 3) := by decide +kernel
theorem dX11_best_87 : decode cX11_best 87 = .ok (.iload_n 2, 1) := by decide +kernel
theorem dX11_best_88 : decode cX11_best 88 = .ok (.invokevirtual 231, 3) := by decide +kernel
theorem dX11_best_91 : decode cX11_best 91 = .ok (.iinc 2 1, 3) := by decide +kernel
theorem dX11_best_94 : decode cX11_best 94 = .ok (.goto (-39), 3) := by decide +kernel
theorem dX11_best_97 : decode cX11_best 97 = .ok (.aload_n 0, 1) := by decide +kernel
theorem dX11_best_98 : decode cX11_best 98 = .ok (.getfield 62, 3) := by decide +kernel
theorem dX11_best_101 : decode cX11_best 101 = .ok (.ldc 234, 2) := by decide +kernel
theorem dX11_best_103 : decode cX11_best 103 = .ok (.invokevirtual 235, 3) := by decide +kernel
theorem dX11_best_106 : decode cX11_best 106 = .ok (.ireturn, 1) := by decide +kernel
noncomputable def tX11_best_11 : qT (Int32 × qM) :=
  oC (.int (-2 : Int32)) (eI)
noncomputable def wX11_best_11 (k : qM → Option (Int32 × qM)) : qT (Int32 × qM) := fun lo st m => match lo, st with
  | [_, _, _], [] => k m
  | _, _ => none
set_option maxRecDepth 20000 in
theorem sX11_best_11 {C : qCx} {w : qWp} (h : qOk C w RX11 cX11_best 3 14 155 155) (hm : qMt C (some .int)) (hx : qNx C) : qSnd C w 3 155 (qQf C w 155 155 jI) qfin 155 22 (tX11_best_11) :=
  cB (pc := 22) h dX11_best_22 rfl (zI (pc := 24) h hm (Nat.le_refl _) dX11_best_24)
set_option maxRecDepth 20000 in
theorem lX11_best_11 (m : qM) : tX11_best_11 [none, none, none] [] m = fX11_best_11 m := rfl
theorem bX11_best_11 {C : qCx} {w : qWp} (h : qOk C w RX11 cX11_best 3 14 155 155) (hm : qMt C (some .int)) (hx : qNx C) : qSnd C w 3 155 (qQf C w 155 155 jI) qfin 155 22 (wX11_best_11 fX11_best_11) :=
  qSnd_of (fun lo st m x hr0 => by
    unfold wX11_best_11 at hr0
    split at hr0
    · exact ⟨_, (qsub_n (qsub_n (qsub_n qsub_nil))), (lX11_best_11 _).trans hr0⟩
    · cases hr0) (sX11_best_11 h hm hx)
noncomputable def tX11_best_47 (j29 : qT (Int32 × qM)) : qT (Int32 × qM) :=
  oInc 2 (1 : Int32) (j29)
noncomputable def wX11_best_47 (k : Int32 → Int32 → qM → Option (Int32 × qM)) : qT (Int32 × qM) := fun lo st m => match lo, st with
  | [some (.ref 0), some (.int a1), some (.int a2)], [] => k a1 a2 m
  | _, _ => none
noncomputable def wX11_best_29 (k : Int32 → Int32 → qM → Option (Int32 × qM)) : qT (Int32 × qM) := fun lo st m => match lo, st with
  | [some (.ref 0), some (.int a1), some (.int a2)], [] => k a1 a2 m
  | _, _ => none
set_option maxRecDepth 20000 in
theorem sX11_best_47 {C : qCx} {w : qWp} (h : qOk C w RX11 cX11_best 3 14 155 155) (hm : qMt C (some .int)) (hx : qNx C) {j29 : qT (Int32 × qM)} (k29 : qSnd C w 3 155 (qQf C w 155 155 jI) qfin 155 55 j29) : qSnd C w 3 155 (qQf C w 155 155 jI) qfin 155 91 (tX11_best_47 j29) :=
  cInc (pc := 91) h dX11_best_91 rfl (jGo (pc := 94) h dX11_best_94 rfl (k29))
set_option maxRecDepth 20000 in
theorem lX11_best_47 (k29 : Int32 → Int32 → qM → Option (Int32 × qM)) (a1 : Int32) (a2 : Int32) (m : qM) : tX11_best_47 (wX11_best_29 k29) [some (.ref 0), some (.int a1), some (.int a2)] [] m = fX11_best_47 k29 a1 a2 m := rfl
theorem bX11_best_47 {C : qCx} {w : qWp} (h : qOk C w RX11 cX11_best 3 14 155 155) (hm : qMt C (some .int)) (hx : qNx C) {k29 : Int32 → Int32 → qM → Option (Int32 × qM)} (h29 : qSnd C w 3 155 (qQf C w 155 155 jI) qfin 155 55 (wX11_best_29 k29)) : qSnd C w 3 155 (qQf C w 155 155 jI) qfin 155 91 (wX11_best_47 (fX11_best_47 k29)) :=
  qSnd_of (fun lo st m x hr0 => by
    unfold wX11_best_47 at hr0
    split at hr0
    · exact ⟨_, (qsub_e (qsub_e (qsub_e qsub_nil))), (lX11_best_47 _ _ _ _).trans hr0⟩
    · cases hr0) (sX11_best_47 h hm hx h29)
noncomputable def tX11_best_29 (j47 : qT (Int32 × qM)) : qT (Int32 × qM) :=
  oLi 2 (oC (.int (30 : Int32)) (oCGe (oLa 0 (oGf 0 6 68 (oC (.int (1048575 : Int32)) (oCi GX0_layPicked 2 (eI))))) (oLi 1 (oLi 2 (oCi GX11_has 2 (oEq (j47) (oLa 0 (oGf 0 5 58 (oLi 2 (oCi GX4_isLaid 2 (oEq (oLa 0 (oGf 0 6 68 (oLi 2 (oCv GX0_pick 2 (j47))))) (oC (.int (-4 : Int32)) (eI)))))))))))))
set_option maxRecDepth 20000 in
theorem sX11_best_29 {C : qCx} {w : qWp} (h : qOk C w RX11 cX11_best 3 14 155 155) (hm : qMt C (some .int)) (hx : qNx C) {j47 : qT (Int32 × qM)} (k47 : qSnd C w 3 155 (qQf C w 155 155 jI) qfin 155 91 j47) : qSnd C w 3 155 (qQf C w 155 155 jI) qfin 155 55 (tX11_best_29 j47) :=
  cLi (pc := 55) h dX11_best_55 rfl (cB (pc := 56) h dX11_best_56 rfl (jCGe (pc := 58) h dX11_best_58 rfl (cLa (pc := 97) h dX11_best_97 rfl (gGf (pc := 98) h dX11_best_98 ff_X11_62_0 (Nat.le_of_ble_eq_true rfl) (Nat.le_of_ble_eq_true rfl) rfl (cK (pc := 101) h dX11_best_101 fc_X11_234 (kCi (pc := 103) h (kd_X11_235 h dX11_best_103) spX0_layPicked (by decide) (by decide) (by decide) (by decide) (zI (pc := 106) h hm (Nat.le_refl _) dX11_best_106))))) (cLi (pc := 61) h dX11_best_61 rfl (cLi (pc := 62) h dX11_best_62 rfl (kCi (pc := 63) h (kd_X11_205 h dX11_best_63) spX11_has (by decide) (by decide) (by decide) (by decide) (jEq (pc := 66) h dX11_best_66 rfl (k47) (cLa (pc := 69) h dX11_best_69 rfl (gGf (pc := 70) h dX11_best_70 ff_X11_53_0 (Nat.le_of_ble_eq_true rfl) (Nat.le_of_ble_eq_true rfl) rfl (cLi (pc := 73) h dX11_best_73 rfl (kCi (pc := 74) h (kd_X11_199 h dX11_best_74) spX4_isLaid (by decide) (by decide) (by decide) (by decide) (jEq (pc := 77) h dX11_best_77 rfl (cLa (pc := 83) h dX11_best_83 rfl (gGf (pc := 84) h dX11_best_84 ff_X11_62_0 (Nat.le_of_ble_eq_true rfl) (Nat.le_of_ble_eq_true rfl) rfl (cLi (pc := 87) h dX11_best_87 rfl (kCv (pc := 88) h (kd_X11_231 h dX11_best_88) spX0_pick (by decide) (by decide) (by decide) (by decide) (k47))))) (cB (pc := 80) h dX11_best_80 rfl (zI (pc := 82) h hm (Nat.le_refl _) dX11_best_82)))))))))))))
set_option maxRecDepth 20000 in
theorem lX11_best_29 (n : Nat) (a1 : Int32) (a2 : Int32) (m : qM) : tX11_best_29 (wX11_best_47 (fX11_best_47 (fX11_best_29 n))) [some (.ref 0), some (.int a1), some (.int a2)] [] m = fX11_best_29 (n + 1) a1 a2 m := rfl
theorem bX11_best_29 {C : qCx} {w : qWp} (h : qOk C w RX11 cX11_best 3 14 155 155) (hm : qMt C (some .int)) (hx : qNx C) : ∀ n : Nat, qSnd C w 3 155 (qQf C w 155 155 jI) qfin 155 55 (wX11_best_29 (fX11_best_29 n))
  | 0 => qSnd_of0 (fun lo st m x hr0 => by
    unfold wX11_best_29 at hr0
    split at hr0
    · cases hr0
    · cases hr0)
  | n + 1 => by
    have ih := bX11_best_29 h hm hx n
    exact qSnd_of (fun lo st m x hr0 => by
    unfold wX11_best_29 at hr0
    split at hr0
    · exact ⟨_, (qsub_e (qsub_e (qsub_e qsub_nil))), (lX11_best_29 n _ _ _).trans hr0⟩
    · cases hr0) (sX11_best_29 h hm hx (bX11_best_47 h hm hx ih))
noncomputable def tX11_best_0 (j11 : qT (Int32 × qM)) (j29 : qT (Int32 × qM)) : qT (Int32 × qM) :=
  oLi 1 (oC (.int (1 : Int32)) (oCLt (j11) (oLi 1 (oLa 0 (oGf 0 5 58 (oCi GX4_asks 1 (oC (.int (30 : Int32)) (oCi GJ9_min_7cf53 2 (o2 (fun x y => x >>> (y &&& 31)) (oEq (oLi 1 (oCi GJ6_bitCount_0f7a4 1 (oC (.int (4 : Int32)) (oCLe (oLa 0 (oGi 0 10 (oEq (oLa 0 (oGf 0 6 68 (oCv GX0_clear 1 (oC (.int (0 : Int32)) (oSi 2 (j29)))))) (oC (.int (-4 : Int32)) (eI))))) (oC (.int (-3 : Int32)) (eI)))))) (j11)))))))))))
set_option maxRecDepth 20000 in
theorem sX11_best_0 {C : qCx} {w : qWp} (h : qOk C w RX11 cX11_best 3 14 155 155) (hm : qMt C (some .int)) (hx : qNx C) {j11 : qT (Int32 × qM)} {j29 : qT (Int32 × qM)} (k11 : qSnd C w 3 155 (qQf C w 155 155 jI) qfin 155 22 j11) (k29 : qSnd C w 3 155 (qQf C w 155 155 jI) qfin 155 55 j29) : qSnd C w 3 155 (qQf C w 155 155 jI) qfin 155 0 (tX11_best_0 j11 j29) :=
  cLi (pc := 0) h dX11_best_0 rfl (cC (pc := 1) h dX11_best_1 rfl (jCLt (pc := 2) h dX11_best_2 rfl (k11) (cLi (pc := 5) h dX11_best_5 rfl (cLa (pc := 6) h dX11_best_6 rfl (gGf (pc := 7) h dX11_best_7 ff_X11_53_0 (Nat.le_of_ble_eq_true rfl) (Nat.le_of_ble_eq_true rfl) rfl (kCi (pc := 10) h (kd_X11_189 h dX11_best_10) spX4_asks (by decide) (by decide) (by decide) (by decide) (cB (pc := 13) h dX11_best_13 rfl (kCi (pc := 15) h (kd_X11_218 h dX11_best_15) spJ9_min_7cf53 (by decide) (by decide) (by decide) (by decide) (aShr (pc := 18) h dX11_best_18 (jEq (pc := 19) h dX11_best_19 rfl (cLi (pc := 25) h dX11_best_25 rfl (kCi (pc := 26) h (kd_X11_223 h dX11_best_26) spJ6_bitCount_0f7a4 (by decide) (by decide) (by decide) (by decide) (cC (pc := 29) h dX11_best_29 rfl (jCLe (pc := 30) h dX11_best_30 rfl (cLa (pc := 36) h dX11_best_36 rfl (gGz (pc := 37) h dX11_best_37 ff_X11_91_0 (Nat.le_of_ble_eq_true rfl) (Nat.le_of_ble_eq_true rfl) (jEq (pc := 40) h dX11_best_40 rfl (cLa (pc := 46) h dX11_best_46 rfl (gGf (pc := 47) h dX11_best_47 ff_X11_62_0 (Nat.le_of_ble_eq_true rfl) (Nat.le_of_ble_eq_true rfl) rfl (kCv (pc := 50) h (kd_X11_228 h dX11_best_50) spX0_clear (by decide) (by decide) (by decide) (by decide) (cC (pc := 53) h dX11_best_53 rfl (cSi (pc := 54) h dX11_best_54 rfl (k29)))))) (cB (pc := 43) h dX11_best_43 rfl (zI (pc := 45) h hm (Nat.le_refl _) dX11_best_45))))) (cB (pc := 33) h dX11_best_33 rfl (zI (pc := 35) h hm (Nat.le_refl _) dX11_best_35)))))) (k11)))))))))))
set_option maxRecDepth 20000 in
theorem lX11_best_0 (a1 : Int32) (m : qM) : tX11_best_0 (wX11_best_11 fX11_best_11) (wX11_best_29 (fX11_best_29 FU)) [some (.ref 0), some (.int a1), none] [] m = fX11_best_0 a1 m := rfl
noncomputable def GX11_best : qG Int32 := fun av m => match av with
  | [.ref 0, .int a1] => fX11_best a1 m
  | _ => none
theorem spX11_best : qSpI yX11_best (.code yX11_best cX11_best 3 (some .int)) 14 qfin 155 155 1 GX11_best := by
  intro av m x m' hG
  unfold GX11_best at hG
  split at hG
  · rename_i a1
    rw [fX11_best_d] at hG
    exact ⟨qmeet (J := jI) (r := (x, m')) (av := [.ref 0, .int a1]) (by decide +kernel) (Nat.le_of_ble_eq_true rfl) (fun C w h hm hx hn => sX11_best_0 h hm hx (bX11_best_11 h hm hx) (bX11_best_29 h hm hx FU)) ((lX11_best_0 _ _).trans hG) (Nat.le_of_ble_eq_true rfl), Or.inl ⟨0, _, 11, _, _, rfl, by decide, rfl, qCk_11, rfl⟩⟩
  · cases hG
theorem im_X0_changeOnce : Jvm.Cond.instanceMethod yX0_changeOnce ∈ qTw := qm4 (List.mem_of_getElem? (i := 227) (by decide +kernel)) (by decide +kernel)
theorem se_X0_changeOnce : Jvm.Cond.selects yX0_changeOnce.cls yX0_changeOnce yX0_changeOnce ∈ qTw := qm4 (List.mem_of_getElem? (i := 228) (by decide +kernel)) (by decide +kernel)
theorem co_X0_changeOnce : Jvm.Cond.code yX0_changeOnce cX0_changeOnce 1 (some .boolean) ∈ qTw := qm4 (List.mem_of_getElem? (i := 229) (by decide +kernel)) (by decide +kernel)
theorem yk_X0_changeOnce : qYk yX0_changeOnce 0 := ⟨⟨by decide +kernel, by decide +kernel⟩, by decide +kernel⟩
theorem ml_X11_238 : Jvm.Cond.methodLink RX11 238 yX0_changeOnce ∈ qTw := qm4 (List.mem_of_getElem? (i := 226) (by decide +kernel)) (by decide +kernel)
theorem kd_X11_238 {C : qCx} {w : qWp} {cc : ByteArray} {nL dp n0 n1 pc : Nat} (h : qOk C w RX11 cc nL dp n0 n1) (d : decode cc pc = .ok (.invokevirtual 238, 3)) : qCallOk C w nL dp n0 n1 pc 1 1 yX0_changeOnce (.code yX0_changeOnce cX0_changeOnce 1 (some .boolean)) := kindV h d ml_X11_238 im_X0_changeOnce se_X0_changeOnce in_ParentEve_Chooser co_X0_changeOnce yk_X0_changeOnce (by decide)
theorem dX11_settle_0 : decode cX11_settle 0 = .ok (.aload_n 0, 1) := by decide +kernel
theorem dX11_settle_1 : decode cX11_settle 1 = .ok (.getfield 91, 3) := by decide +kernel
theorem dX11_settle_4 : decode cX11_settle 4 = .ok (.ifCond .eq 6, 3) := by decide +kernel
theorem dX11_settle_7 : decode cX11_settle 7 = .ok (.bipush (-4), 2) := by decide +kernel
theorem dX11_settle_9 : decode cX11_settle 9 = .ok (.ireturn, 1) := by decide +kernel
theorem dX11_settle_10 : decode cX11_settle 10 = .ok (.iconst 0, 1) := by decide +kernel
theorem dX11_settle_11 : decode cX11_settle 11 = .ok (.istore_n 1, 1) := by decide +kernel
theorem dX11_settle_12 : decode cX11_settle 12 = .ok (.iload_n 1, 1) := by decide +kernel
theorem dX11_settle_13 : decode cX11_settle 13 = .ok (.bipush 30, 2) := by decide +kernel
theorem dX11_settle_15 : decode cX11_settle 15 = .ok (.if_icmp .ge 19, 3) := by decide +kernel
theorem dX11_settle_18 : decode cX11_settle 18 = .ok (.aload_n 0, 1) := by decide +kernel
theorem dX11_settle_19 : decode cX11_settle 19 = .ok (.getfield 62, 3) := by decide +kernel
theorem dX11_settle_22 : decode cX11_settle 22 = .ok (.invokevirtual 238, 3) := by decide +kernel
theorem dX11_settle_25 : decode cX11_settle 25 = .ok (.ifCond .eq 9, 3) := by decide +kernel
theorem dX11_settle_28 : decode cX11_settle 28 = .ok (.iinc 1 1, 3) := by decide +kernel
theorem dX11_settle_31 : decode cX11_settle 31 = .ok (.goto (-19), 3) := by decide +kernel
theorem dX11_settle_34 : decode cX11_settle 34 = .ok (.iload_n 1, 1) := by decide +kernel
theorem dX11_settle_35 : decode cX11_settle 35 = .ok (.ireturn, 1) := by decide +kernel
noncomputable def tX11_settle_7 (j16 : qT (Int32 × qM)) (j7 : qT (Int32 × qM)) : qT (Int32 × qM) :=
  oLi 1 (oC (.int (30 : Int32)) (oCGe (j16) (oLa 0 (oGf 0 6 68 (oCi GX0_changeOnce 1 (oEq (j16) (oInc 1 (1 : Int32) (j7))))))))
noncomputable def wX11_settle_7 (k : Int32 → qM → Option (Int32 × qM)) : qT (Int32 × qM) := fun lo st m => match lo, st with
  | [some (.ref 0), some (.int a1)], [] => k a1 m
  | _, _ => none
noncomputable def wX11_settle_16 (k : Int32 → qM → Option (Int32 × qM)) : qT (Int32 × qM) := fun lo st m => match lo, st with
  | [_, some (.int a1)], [] => k a1 m
  | _, _ => none
set_option maxRecDepth 20000 in
theorem sX11_settle_7 {C : qCx} {w : qWp} (h : qOk C w RX11 cX11_settle 2 7 155 155) (hm : qMt C (some .int)) (hx : qNx C) {j16 : qT (Int32 × qM)} {j7 : qT (Int32 × qM)} (k16 : qSnd C w 2 155 (qQf C w 155 155 jI) qfin 155 34 j16) (k7 : qSnd C w 2 155 (qQf C w 155 155 jI) qfin 155 12 j7) : qSnd C w 2 155 (qQf C w 155 155 jI) qfin 155 12 (tX11_settle_7 j16 j7) :=
  cLi (pc := 12) h dX11_settle_12 rfl (cB (pc := 13) h dX11_settle_13 rfl (jCGe (pc := 15) h dX11_settle_15 rfl (k16) (cLa (pc := 18) h dX11_settle_18 rfl (gGf (pc := 19) h dX11_settle_19 ff_X11_62_0 (Nat.le_of_ble_eq_true rfl) (Nat.le_of_ble_eq_true rfl) rfl (kCi (pc := 22) h (kd_X11_238 h dX11_settle_22) spX0_changeOnce (by decide) (by decide) (by decide) (by decide) (jEq (pc := 25) h dX11_settle_25 rfl (k16) (cInc (pc := 28) h dX11_settle_28 rfl (jGo (pc := 31) h dX11_settle_31 rfl (k7)))))))))
set_option maxRecDepth 20000 in
theorem lX11_settle_7 (k16 : Int32 → qM → Option (Int32 × qM)) (n : Nat) (a1 : Int32) (m : qM) : tX11_settle_7 (wX11_settle_16 k16) (wX11_settle_7 ((fX11_settle_7 k16 n))) [some (.ref 0), some (.int a1)] [] m = fX11_settle_7 k16 (n + 1) a1 m := rfl
theorem bX11_settle_7 {C : qCx} {w : qWp} (h : qOk C w RX11 cX11_settle 2 7 155 155) (hm : qMt C (some .int)) (hx : qNx C) {k16 : Int32 → qM → Option (Int32 × qM)} (h16 : qSnd C w 2 155 (qQf C w 155 155 jI) qfin 155 34 (wX11_settle_16 k16)) : ∀ n : Nat, qSnd C w 2 155 (qQf C w 155 155 jI) qfin 155 12 (wX11_settle_7 (fX11_settle_7 k16 n))
  | 0 => qSnd_of0 (fun lo st m x hr0 => by
    unfold wX11_settle_7 at hr0
    split at hr0
    · cases hr0
    · cases hr0)
  | n + 1 => by
    have ih := bX11_settle_7 h hm hx h16 n
    exact qSnd_of (fun lo st m x hr0 => by
    unfold wX11_settle_7 at hr0
    split at hr0
    · exact ⟨_, (qsub_e (qsub_e qsub_nil)), (lX11_settle_7 _ n _ _).trans hr0⟩
    · cases hr0) (sX11_settle_7 h hm hx h16 ih)
noncomputable def tX11_settle_16 : qT (Int32 × qM) :=
  oLi 1 (eI)
set_option maxRecDepth 20000 in
theorem sX11_settle_16 {C : qCx} {w : qWp} (h : qOk C w RX11 cX11_settle 2 7 155 155) (hm : qMt C (some .int)) (hx : qNx C) : qSnd C w 2 155 (qQf C w 155 155 jI) qfin 155 34 (tX11_settle_16) :=
  cLi (pc := 34) h dX11_settle_34 rfl (zI (pc := 35) h hm (Nat.le_refl _) dX11_settle_35)
set_option maxRecDepth 20000 in
theorem lX11_settle_16 (a1 : Int32) (m : qM) : tX11_settle_16 [none, some (.int a1)] [] m = fX11_settle_16 a1 m := rfl
theorem bX11_settle_16 {C : qCx} {w : qWp} (h : qOk C w RX11 cX11_settle 2 7 155 155) (hm : qMt C (some .int)) (hx : qNx C) : qSnd C w 2 155 (qQf C w 155 155 jI) qfin 155 34 (wX11_settle_16 fX11_settle_16) :=
  qSnd_of (fun lo st m x hr0 => by
    unfold wX11_settle_16 at hr0
    split at hr0
    · exact ⟨_, (qsub_n (qsub_e qsub_nil)), (lX11_settle_16 _ _).trans hr0⟩
    · cases hr0) (sX11_settle_16 h hm hx)
noncomputable def tX11_settle_0 (j7 : qT (Int32 × qM)) : qT (Int32 × qM) :=
  oLa 0 (oGi 0 10 (oEq (oC (.int (0 : Int32)) (oSi 1 (j7))) (oC (.int (-4 : Int32)) (eI))))
set_option maxRecDepth 20000 in
theorem sX11_settle_0 {C : qCx} {w : qWp} (h : qOk C w RX11 cX11_settle 2 7 155 155) (hm : qMt C (some .int)) (hx : qNx C) {j7 : qT (Int32 × qM)} (k7 : qSnd C w 2 155 (qQf C w 155 155 jI) qfin 155 12 j7) : qSnd C w 2 155 (qQf C w 155 155 jI) qfin 155 0 (tX11_settle_0 j7) :=
  cLa (pc := 0) h dX11_settle_0 rfl (gGz (pc := 1) h dX11_settle_1 ff_X11_91_0 (Nat.le_of_ble_eq_true rfl) (Nat.le_of_ble_eq_true rfl) (jEq (pc := 4) h dX11_settle_4 rfl (cC (pc := 10) h dX11_settle_10 rfl (cSi (pc := 11) h dX11_settle_11 rfl (k7))) (cB (pc := 7) h dX11_settle_7 rfl (zI (pc := 9) h hm (Nat.le_refl _) dX11_settle_9))))
set_option maxRecDepth 20000 in
theorem lX11_settle_0 (m : qM) : tX11_settle_0 (wX11_settle_7 (fX11_settle_7 fX11_settle_16 FU)) [some (.ref 0), none] [] m = fX11_settle_0 m := rfl
noncomputable def GX11_settle : qG Int32 := fun av m => match av with
  | [.ref 0] => fX11_settle m
  | _ => none
theorem spX11_settle : qSpI yX11_settle (.code yX11_settle cX11_settle 2 (some .int)) 7 qfin 155 155 1 GX11_settle := by
  intro av m x m' hG
  unfold GX11_settle at hG
  split at hG
  · rw [fX11_settle_d] at hG
    exact ⟨qmeet (J := jI) (r := (x, m')) (av := [.ref 0]) (by decide +kernel) (Nat.le_of_ble_eq_true rfl) (fun C w h hm hx hn => sX11_settle_0 h hm hx (bX11_settle_7 h hm hx (bX11_settle_16 h hm hx) FU)) ((lX11_settle_0 _).trans hG) (Nat.le_of_ble_eq_true rfl), Or.inl ⟨0, _, 11, _, _, rfl, by decide, rfl, qCk_11, rfl⟩⟩
  · cases hG
theorem ml_X11_241 : Jvm.Cond.methodLink RX11 241 yX4_familyOf ∈ qTw := qm5 (List.mem_of_getElem? (i := 22) (by decide +kernel)) (by decide +kernel)
theorem kd_X11_241 {C : qCx} {w : qWp} {cc : ByteArray} {nL dp n0 n1 pc : Nat} (h : qOk C w RX11 cc nL dp n0 n1) (d : decode cc pc = .ok (.invokevirtual 241, 3)) : qCallOk C w nL dp n0 n1 pc 2 1 yX4_familyOf (.code yX4_familyOf cX4_familyOf 2 (some .int)) := kindV h d ml_X11_241 im_X4_familyOf se_X4_familyOf in_ParentEve_Plan co_X4_familyOf yk_X4_familyOf (by decide)
theorem ml_X11_244 : Jvm.Cond.methodLink RX11 244 yX4_teacherOf ∈ qTw := qm5 (List.mem_of_getElem? (i := 23) (by decide +kernel)) (by decide +kernel)
theorem kd_X11_244 {C : qCx} {w : qWp} {cc : ByteArray} {nL dp n0 n1 pc : Nat} (h : qOk C w RX11 cc nL dp n0 n1) (d : decode cc pc = .ok (.invokevirtual 244, 3)) : qCallOk C w nL dp n0 n1 pc 2 1 yX4_teacherOf (.code yX4_teacherOf cX4_teacherOf 2 (some .int)) := kindV h d ml_X11_244 im_X4_teacherOf se_X4_teacherOf in_ParentEve_Plan co_X4_teacherOf yk_X4_teacherOf (by decide)
theorem ml_X11_247 : Jvm.Cond.methodLink RX11 247 yX4_isMust ∈ qTw := qm5 (List.mem_of_getElem? (i := 27) (by decide +kernel)) (by decide +kernel)
theorem kd_X11_247 {C : qCx} {w : qWp} {cc : ByteArray} {nL dp n0 n1 pc : Nat} (h : qOk C w RX11 cc nL dp n0 n1) (d : decode cc pc = .ok (.invokevirtual 247, 3)) : qCallOk C w nL dp n0 n1 pc 2 1 yX4_isMust (.code yX4_isMust cX4_isMust 2 (some .boolean)) := kindV h d ml_X11_247 im_X4_isMust se_X4_isMust in_ParentEve_Plan co_X4_isMust yk_X4_isMust (by decide)
theorem ml_X11_250 : Jvm.Cond.methodLink RX11 250 yX4_slotOf ∈ qTw := qm5 (List.mem_of_getElem? (i := 28) (by decide +kernel)) (by decide +kernel)
theorem kd_X11_250 {C : qCx} {w : qWp} {cc : ByteArray} {nL dp n0 n1 pc : Nat} (h : qOk C w RX11 cc nL dp n0 n1) (d : decode cc pc = .ok (.invokevirtual 250, 3)) : qCallOk C w nL dp n0 n1 pc 2 1 yX4_slotOf (.code yX4_slotOf cX4_slotOf 2 (some .int)) := kindV h d ml_X11_250 im_X4_slotOf se_X4_slotOf in_ParentEve_Plan co_X4_slotOf yk_X4_slotOf (by decide)
theorem dX11_about_0 : decode cX11_about 0 = .ok (.aload_n 0, 1) := by decide +kernel
theorem dX11_about_1 : decode cX11_about 1 = .ok (.getfield 53, 3) := by decide +kernel
theorem dX11_about_4 : decode cX11_about 4 = .ok (.iload_n 1, 1) := by decide +kernel
theorem dX11_about_5 : decode cX11_about 5 = .ok (.invokevirtual 196, 3) := by decide +kernel
theorem dX11_about_8 : decode cX11_about 8 = .ok (.ifCond .ne 6, 3) := by decide +kernel
theorem dX11_about_11 : decode cX11_about 11 = .ok (.bipush (-9), 2) := by decide +kernel
theorem dX11_about_13 : decode cX11_about 13 = .ok (.ireturn, 1) := by decide +kernel
theorem dX11_about_14 : decode cX11_about 14 = .ok (.iload_n 2, 1) := by decide +kernel
theorem dX11_about_15 : decode cX11_about 15 = .ok (.tableswitch 73 0 3 #[29, 38, 47, 64], 29) := by decide +kernel
theorem dX11_about_44 : decode cX11_about 44 = .ok (.aload_n 0, 1) := by decide +kernel
theorem dX11_about_45 : decode cX11_about 45 = .ok (.getfield 53, 3) := by decide +kernel
theorem dX11_about_48 : decode cX11_about 48 = .ok (.iload_n 1, 1) := by decide +kernel
theorem dX11_about_49 : decode cX11_about 49 = .ok (.invokevirtual 241, 3) := by decide +kernel
theorem dX11_about_52 : decode cX11_about 52 = .ok (.ireturn, 1) := by decide +kernel
theorem dX11_about_53 : decode cX11_about 53 = .ok (.aload_n 0, 1) := by decide +kernel
theorem dX11_about_54 : decode cX11_about 54 = .ok (.getfield 53, 3) := by decide +kernel
theorem dX11_about_57 : decode cX11_about 57 = .ok (.iload_n 1, 1) := by decide +kernel
theorem dX11_about_58 : decode cX11_about 58 = .ok (.invokevirtual 244, 3) := by decide +kernel
theorem dX11_about_61 : decode cX11_about 61 = .ok (.ireturn, 1) := by decide +kernel
theorem dX11_about_62 : decode cX11_about 62 = .ok (.aload_n 0, 1) := by decide +kernel
theorem dX11_about_63 : decode cX11_about 63 = .ok (.getfield 53, 3) := by decide +kernel
theorem dX11_about_66 : decode cX11_about 66 = .ok (.iload_n 1, 1) := by decide +kernel
theorem dX11_about_67 : decode cX11_about 67 = .ok (.invokevirtual 247, 3) := by decide +kernel
theorem dX11_about_70 : decode cX11_about 70 = .ok (.ifCond .eq 7, 3) := by decide +kernel
theorem dX11_about_73 : decode cX11_about 73 = .ok (.iconst 1, 1) := by decide +kernel
theorem dX11_about_74 : decode cX11_about 74 = .ok (.goto 4, 3) := by decide +kernel
theorem dX11_about_77 : decode cX11_about 77 = .ok (.iconst 0, 1) := by decide +kernel
theorem dX11_about_78 : decode cX11_about 78 = .ok (.ireturn, 1) := by decide +kernel
theorem dX11_about_79 : decode cX11_about 79 = .ok (.aload_n 0, 1) := by decide +kernel
theorem dX11_about_80 : decode cX11_about 80 = .ok (.getfield 53, 3) := by decide +kernel
theorem dX11_about_83 : decode cX11_about 83 = .ok (.iload_n 1, 1) := by decide +kernel
theorem dX11_about_84 : decode cX11_about 84 = .ok (.invokevirtual 250, 3) := by decide +kernel
theorem dX11_about_87 : decode cX11_about 87 = .ok (.ireturn, 1) := by decide +kernel
theorem dX11_about_88 : decode cX11_about 88 = .ok (.bipush (-9), 2) := by decide +kernel
theorem dX11_about_90 : decode cX11_about 90 = .ok (.ireturn, 1) := by decide +kernel
noncomputable def tX11_about_27 : qT (Int32 × qM) :=
  eI
noncomputable def wX11_about_27 (k : Int32 → qM → Option (Int32 × qM)) : qT (Int32 × qM) := fun lo st m => match lo, st with
  | [_, _, _], [.int s0] => k s0 m
  | _, _ => none
set_option maxRecDepth 20000 in
theorem sX11_about_27 {C : qCx} {w : qWp} (h : qOk C w RX11 cX11_about 3 1 155 155) (hm : qMt C (some .int)) (hx : qNx C) : qSnd C w 3 155 (qQf C w 155 155 jI) qfin 155 78 (tX11_about_27) :=
  zI (pc := 78) h hm (Nat.le_refl _) dX11_about_78
set_option maxRecDepth 20000 in
theorem lX11_about_27 (s0 : Int32) (m : qM) : tX11_about_27 [none, none, none] [(.int s0)] m = fX11_about_27 s0 m := rfl
theorem bX11_about_27 {C : qCx} {w : qWp} (h : qOk C w RX11 cX11_about 3 1 155 155) (hm : qMt C (some .int)) (hx : qNx C) : qSnd C w 3 155 (qQf C w 155 155 jI) qfin 155 78 (wX11_about_27 fX11_about_27) :=
  qSnd_of (fun lo st m x hr0 => by
    unfold wX11_about_27 at hr0
    split at hr0
    · exact ⟨_, (qsub_n (qsub_n (qsub_n qsub_nil))), (lX11_about_27 _ _).trans hr0⟩
    · cases hr0) (sX11_about_27 h hm hx)
noncomputable def tX11_about_0 (j27 : qT (Int32 × qM)) : qT (Int32 × qM) :=
  oLa 0 (oGf 0 5 58 (oLi 1 (oCi GX4_isAsk 2 (oEq (oC (.int (-9 : Int32)) (eI)) (oLi 2 (oSw (0 : Int32) (oC (.int (-9 : Int32)) (eI)) [oLa 0 (oGf 0 5 58 (oLi 1 (oCi GX4_familyOf 2 (eI)))), oLa 0 (oGf 0 5 58 (oLi 1 (oCi GX4_teacherOf 2 (eI)))), oLa 0 (oGf 0 5 58 (oLi 1 (oCi GX4_isMust 2 (oEq (oC (.int (0 : Int32)) (j27)) (oC (.int (1 : Int32)) (j27)))))), oLa 0 (oGf 0 5 58 (oLi 1 (oCi GX4_slotOf 2 (eI))))]))))))
set_option maxRecDepth 20000 in
theorem sX11_about_0 {C : qCx} {w : qWp} (h : qOk C w RX11 cX11_about 3 1 155 155) (hm : qMt C (some .int)) (hx : qNx C) {j27 : qT (Int32 × qM)} (k27 : qSnd C w 3 155 (qQf C w 155 155 jI) qfin 155 78 j27) : qSnd C w 3 155 (qQf C w 155 155 jI) qfin 155 0 (tX11_about_0 j27) :=
  cLa (pc := 0) h dX11_about_0 rfl (gGf (pc := 1) h dX11_about_1 ff_X11_53_0 (Nat.le_of_ble_eq_true rfl) (Nat.le_of_ble_eq_true rfl) rfl (cLi (pc := 4) h dX11_about_4 rfl (kCi (pc := 5) h (kd_X11_196 h dX11_about_5) spX4_isAsk (by decide) (by decide) (by decide) (by decide) (jNe (pc := 8) h dX11_about_8 rfl (cLi (pc := 14) h dX11_about_14 rfl (jSw (pc := 15) (a := 0) h dX11_about_15 rfl rfl rfl (by decide) rfl (cB (pc := 88) h dX11_about_88 rfl (zI (pc := 90) h hm (Nat.le_refl _) dX11_about_90)) ⟨⟨_, rfl, cLa (pc := 44) h dX11_about_44 rfl (gGf (pc := 45) h dX11_about_45 ff_X11_53_0 (Nat.le_of_ble_eq_true rfl) (Nat.le_of_ble_eq_true rfl) rfl (cLi (pc := 48) h dX11_about_48 rfl (kCi (pc := 49) h (kd_X11_241 h dX11_about_49) spX4_familyOf (by decide) (by decide) (by decide) (by decide) (zI (pc := 52) h hm (Nat.le_refl _) dX11_about_52))))⟩, ⟨⟨_, rfl, cLa (pc := 53) h dX11_about_53 rfl (gGf (pc := 54) h dX11_about_54 ff_X11_53_0 (Nat.le_of_ble_eq_true rfl) (Nat.le_of_ble_eq_true rfl) rfl (cLi (pc := 57) h dX11_about_57 rfl (kCi (pc := 58) h (kd_X11_244 h dX11_about_58) spX4_teacherOf (by decide) (by decide) (by decide) (by decide) (zI (pc := 61) h hm (Nat.le_refl _) dX11_about_61))))⟩, ⟨⟨_, rfl, cLa (pc := 62) h dX11_about_62 rfl (gGf (pc := 63) h dX11_about_63 ff_X11_53_0 (Nat.le_of_ble_eq_true rfl) (Nat.le_of_ble_eq_true rfl) rfl (cLi (pc := 66) h dX11_about_66 rfl (kCi (pc := 67) h (kd_X11_247 h dX11_about_67) spX4_isMust (by decide) (by decide) (by decide) (by decide) (jEq (pc := 70) h dX11_about_70 rfl (cC (pc := 77) h dX11_about_77 rfl (k27)) (cC (pc := 73) h dX11_about_73 rfl (jGo (pc := 74) h dX11_about_74 rfl (k27)))))))⟩, ⟨⟨_, rfl, cLa (pc := 79) h dX11_about_79 rfl (gGf (pc := 80) h dX11_about_80 ff_X11_53_0 (Nat.le_of_ble_eq_true rfl) (Nat.le_of_ble_eq_true rfl) rfl (cLi (pc := 83) h dX11_about_83 rfl (kCi (pc := 84) h (kd_X11_250 h dX11_about_84) spX4_slotOf (by decide) (by decide) (by decide) (by decide) (zI (pc := 87) h hm (Nat.le_refl _) dX11_about_87))))⟩, trivial⟩⟩⟩⟩)) (cB (pc := 11) h dX11_about_11 rfl (zI (pc := 13) h hm (Nat.le_refl _) dX11_about_13))))))
set_option maxRecDepth 20000 in
theorem lX11_about_0 (a1 : Int32) (a2 : Int32) (m : qM) : tX11_about_0 (wX11_about_27 fX11_about_27) [some (.ref 0), some (.int a1), some (.int a2)] [] m = fX11_about_0 a1 a2 m := rfl
noncomputable def GX11_about : qG Int32 := fun av m => match av with
  | [.ref 0, .int a1, .int a2] => fX11_about a1 a2 m
  | _ => none
theorem spX11_about : qSpI yX11_about (.code yX11_about cX11_about 3 (some .int)) 1 qfin 155 155 1 GX11_about := by
  intro av m x m' hG
  unfold GX11_about at hG
  split at hG
  · rename_i a1 a2
    rw [fX11_about_d] at hG
    exact ⟨qmeet (J := jI) (r := (x, m')) (av := [.ref 0, .int a1, .int a2]) (by decide +kernel) (Nat.le_of_ble_eq_true rfl) (fun C w h hm hx hn => sX11_about_0 h hm hx (bX11_about_27 h hm hx)) ((lX11_about_0 _ _ _).trans hG) (Nat.le_of_ble_eq_true rfl), Or.inl ⟨0, _, 11, _, _, rfl, by decide, rfl, qCk_11, rfl⟩⟩
  · cases hG
theorem im_X4_laidOfFamily : Jvm.Cond.instanceMethod yX4_laidOfFamily ∈ qTw := qm5 (List.mem_of_getElem? (i := 34) (by decide +kernel)) (by decide +kernel)
theorem se_X4_laidOfFamily : Jvm.Cond.selects yX4_laidOfFamily.cls yX4_laidOfFamily yX4_laidOfFamily ∈ qTw := qm5 (List.mem_of_getElem? (i := 35) (by decide +kernel)) (by decide +kernel)
theorem co_X4_laidOfFamily : Jvm.Cond.code yX4_laidOfFamily cX4_laidOfFamily 2 (some .int) ∈ qTw := qm5 (List.mem_of_getElem? (i := 36) (by decide +kernel)) (by decide +kernel)
theorem yk_X4_laidOfFamily : qYk yX4_laidOfFamily 1 := ⟨⟨by decide +kernel, by decide +kernel⟩, by decide +kernel⟩
theorem ml_X11_253 : Jvm.Cond.methodLink RX11 253 yX4_laidOfFamily ∈ qTw := qm5 (List.mem_of_getElem? (i := 33) (by decide +kernel)) (by decide +kernel)
theorem kd_X11_253 {C : qCx} {w : qWp} {cc : ByteArray} {nL dp n0 n1 pc : Nat} (h : qOk C w RX11 cc nL dp n0 n1) (d : decode cc pc = .ok (.invokevirtual 253, 3)) : qCallOk C w nL dp n0 n1 pc 2 1 yX4_laidOfFamily (.code yX4_laidOfFamily cX4_laidOfFamily 2 (some .int)) := kindV h d ml_X11_253 im_X4_laidOfFamily se_X4_laidOfFamily in_ParentEve_Plan co_X4_laidOfFamily yk_X4_laidOfFamily (by decide)
theorem ml_X11_256 : Jvm.Cond.methodLink RX11 256 yX11_gapsIn ∈ qTw := qm5 (List.mem_of_getElem? (i := 37) (by decide +kernel)) (by decide +kernel)
theorem kd_X11_256 {C : qCx} {w : qWp} {cc : ByteArray} {nL dp n0 n1 pc : Nat} (h : qOk C w RX11 cc nL dp n0 n1) (d : decode cc pc = .ok (.invokestatic 256, 3)) : qCallOk C w nL dp n0 n1 pc 1 0 yX11_gapsIn (.code yX11_gapsIn cX11_gapsIn 3 (some .int)) := kindS h d ml_X11_256 im_X11_gapsIn in_ParentEve co_X11_gapsIn yk_X11_gapsIn (by decide)
theorem dX11_waits_0 : decode cX11_waits 0 = .ok (.iload_n 1, 1) := by decide +kernel
theorem dX11_waits_1 : decode cX11_waits 1 = .ok (.invokestatic 170, 3) := by decide +kernel
theorem dX11_waits_4 : decode cX11_waits 4 = .ok (.ifCond .ne 6, 3) := by decide +kernel
theorem dX11_waits_7 : decode cX11_waits 7 = .ok (.bipush (-2), 2) := by decide +kernel
theorem dX11_waits_9 : decode cX11_waits 9 = .ok (.ireturn, 1) := by decide +kernel
theorem dX11_waits_10 : decode cX11_waits 10 = .ok (.aload_n 0, 1) := by decide +kernel
theorem dX11_waits_11 : decode cX11_waits 11 = .ok (.getfield 53, 3) := by decide +kernel
theorem dX11_waits_14 : decode cX11_waits 14 = .ok (.iload_n 1, 1) := by decide +kernel
theorem dX11_waits_15 : decode cX11_waits 15 = .ok (.invokevirtual 253, 3) := by decide +kernel
theorem dX11_waits_18 : decode cX11_waits 18 = .ok (.istore_n 2, 1) := by decide +kernel
theorem dX11_waits_19 : decode cX11_waits 19 = .ok (.iload_n 2, 1) := by decide +kernel
theorem dX11_waits_20 : decode cX11_waits 20 = .ok (.ifCond .ne 7, 3) := by decide +kernel
theorem dX11_waits_23 : decode cX11_waits 23 = .ok (.iconst (-1), 1) := by decide +kernel
theorem dX11_waits_24 : decode cX11_waits 24 = .ok (.goto 7, 3) := by decide +kernel
theorem dX11_waits_27 : decode cX11_waits 27 = .ok (.iload_n 2, 1) := by decide +kernel
theorem dX11_waits_28 : decode cX11_waits 28 = .ok (.invokestatic 256, 3) := by decide +kernel
theorem dX11_waits_31 : decode cX11_waits 31 = .ok (.ireturn, 1) := by decide +kernel
noncomputable def tX11_waits_16 : qT (Int32 × qM) :=
  eI
noncomputable def wX11_waits_16 (k : Int32 → qM → Option (Int32 × qM)) : qT (Int32 × qM) := fun lo st m => match lo, st with
  | [_, _, _], [.int s0] => k s0 m
  | _, _ => none
set_option maxRecDepth 20000 in
theorem sX11_waits_16 {C : qCx} {w : qWp} (h : qOk C w RX11 cX11_waits 3 2 155 155) (hm : qMt C (some .int)) (hx : qNx C) : qSnd C w 3 155 (qQf C w 155 155 jI) qfin 155 31 (tX11_waits_16) :=
  zI (pc := 31) h hm (Nat.le_refl _) dX11_waits_31
set_option maxRecDepth 20000 in
theorem lX11_waits_16 (s0 : Int32) (m : qM) : tX11_waits_16 [none, none, none] [(.int s0)] m = fX11_waits_16 s0 m := rfl
theorem bX11_waits_16 {C : qCx} {w : qWp} (h : qOk C w RX11 cX11_waits 3 2 155 155) (hm : qMt C (some .int)) (hx : qNx C) : qSnd C w 3 155 (qQf C w 155 155 jI) qfin 155 31 (wX11_waits_16 fX11_waits_16) :=
  qSnd_of (fun lo st m x hr0 => by
    unfold wX11_waits_16 at hr0
    split at hr0
    · exact ⟨_, (qsub_n (qsub_n (qsub_n qsub_nil))), (lX11_waits_16 _ _).trans hr0⟩
    · cases hr0) (sX11_waits_16 h hm hx)
noncomputable def tX11_waits_0 (j16 : qT (Int32 × qM)) : qT (Int32 × qM) :=
  oLi 1 (oCi GX11_isFamily 1 (oEq (oC (.int (-2 : Int32)) (eI)) (oLa 0 (oGf 0 5 58 (oLi 1 (oCi GX4_laidOfFamily 2 (oSi 2 (oLi 2 (oEq (oC (.int (-1 : Int32)) (j16)) (oLi 2 (oCi GX11_gapsIn 1 (j16))))))))))))
set_option maxRecDepth 20000 in
theorem sX11_waits_0 {C : qCx} {w : qWp} (h : qOk C w RX11 cX11_waits 3 2 155 155) (hm : qMt C (some .int)) (hx : qNx C) {j16 : qT (Int32 × qM)} (k16 : qSnd C w 3 155 (qQf C w 155 155 jI) qfin 155 31 j16) : qSnd C w 3 155 (qQf C w 155 155 jI) qfin 155 0 (tX11_waits_0 j16) :=
  cLi (pc := 0) h dX11_waits_0 rfl (kCi (pc := 1) h (kd_X11_170 h dX11_waits_1) spX11_isFamily (by decide) (by decide) (by decide) (by decide) (jNe (pc := 4) h dX11_waits_4 rfl (cLa (pc := 10) h dX11_waits_10 rfl (gGf (pc := 11) h dX11_waits_11 ff_X11_53_0 (Nat.le_of_ble_eq_true rfl) (Nat.le_of_ble_eq_true rfl) rfl (cLi (pc := 14) h dX11_waits_14 rfl (kCi (pc := 15) h (kd_X11_253 h dX11_waits_15) spX4_laidOfFamily (by decide) (by decide) (by decide) (by decide) (cSi (pc := 18) h dX11_waits_18 rfl (cLi (pc := 19) h dX11_waits_19 rfl (jNe (pc := 20) h dX11_waits_20 rfl (cLi (pc := 27) h dX11_waits_27 rfl (kCi (pc := 28) h (kd_X11_256 h dX11_waits_28) spX11_gapsIn (by decide) (by decide) (by decide) (by decide) (k16))) (cC (pc := 23) h dX11_waits_23 rfl (jGo (pc := 24) h dX11_waits_24 rfl (k16)))))))))) (cB (pc := 7) h dX11_waits_7 rfl (zI (pc := 9) h hm (Nat.le_refl _) dX11_waits_9))))
set_option maxRecDepth 20000 in
theorem lX11_waits_0 (a1 : Int32) (m : qM) : tX11_waits_0 (wX11_waits_16 fX11_waits_16) [some (.ref 0), some (.int a1), none] [] m = fX11_waits_0 a1 m := rfl
noncomputable def GX11_waits : qG Int32 := fun av m => match av with
  | [.ref 0, .int a1] => fX11_waits a1 m
  | _ => none
theorem spX11_waits : qSpI yX11_waits (.code yX11_waits cX11_waits 3 (some .int)) 2 qfin 155 155 1 GX11_waits := by
  intro av m x m' hG
  unfold GX11_waits at hG
  split at hG
  · rename_i a1
    rw [fX11_waits_d] at hG
    exact ⟨qmeet (J := jI) (r := (x, m')) (av := [.ref 0, .int a1]) (by decide +kernel) (Nat.le_of_ble_eq_true rfl) (fun C w h hm hx hn => sX11_waits_0 h hm hx (bX11_waits_16 h hm hx)) ((lX11_waits_0 _ _).trans hG) (Nat.le_of_ble_eq_true rfl), Or.inl ⟨0, _, 11, _, _, rfl, by decide, rfl, qCk_11, rfl⟩⟩
  · cases hG
theorem im_X4_mustsLaid : Jvm.Cond.instanceMethod yX4_mustsLaid ∈ qTw := qm5 (List.mem_of_getElem? (i := 43) (by decide +kernel)) (by decide +kernel)
theorem se_X4_mustsLaid : Jvm.Cond.selects yX4_mustsLaid.cls yX4_mustsLaid yX4_mustsLaid ∈ qTw := qm5 (List.mem_of_getElem? (i := 44) (by decide +kernel)) (by decide +kernel)
theorem co_X4_mustsLaid : Jvm.Cond.code yX4_mustsLaid cX4_mustsLaid 1 (some .int) ∈ qTw := qm5 (List.mem_of_getElem? (i := 45) (by decide +kernel)) (by decide +kernel)
theorem yk_X4_mustsLaid : qYk yX4_mustsLaid 0 := ⟨⟨by decide +kernel, by decide +kernel⟩, by decide +kernel⟩
theorem ml_X11_259 : Jvm.Cond.methodLink RX11 259 yX4_mustsLaid ∈ qTw := qm5 (List.mem_of_getElem? (i := 42) (by decide +kernel)) (by decide +kernel)
theorem kd_X11_259 {C : qCx} {w : qWp} {cc : ByteArray} {nL dp n0 n1 pc : Nat} (h : qOk C w RX11 cc nL dp n0 n1) (d : decode cc pc = .ok (.invokevirtual 259, 3)) : qCallOk C w nL dp n0 n1 pc 1 1 yX4_mustsLaid (.code yX4_mustsLaid cX4_mustsLaid 1 (some .int)) := kindV h d ml_X11_259 im_X4_mustsLaid se_X4_mustsLaid in_ParentEve_Plan co_X4_mustsLaid yk_X4_mustsLaid (by decide)
theorem im_X4_waitsOfAll : Jvm.Cond.instanceMethod yX4_waitsOfAll ∈ qTw := qm5 (List.mem_of_getElem? (i := 47) (by decide +kernel)) (by decide +kernel)
theorem se_X4_waitsOfAll : Jvm.Cond.selects yX4_waitsOfAll.cls yX4_waitsOfAll yX4_waitsOfAll ∈ qTw := qm5 (List.mem_of_getElem? (i := 48) (by decide +kernel)) (by decide +kernel)
theorem co_X4_waitsOfAll : Jvm.Cond.code yX4_waitsOfAll cX4_waitsOfAll 1 (some .int) ∈ qTw := qm5 (List.mem_of_getElem? (i := 49) (by decide +kernel)) (by decide +kernel)
theorem yk_X4_waitsOfAll : qYk yX4_waitsOfAll 0 := ⟨⟨by decide +kernel, by decide +kernel⟩, by decide +kernel⟩
theorem ml_X11_265 : Jvm.Cond.methodLink RX11 265 yX4_waitsOfAll ∈ qTw := qm5 (List.mem_of_getElem? (i := 46) (by decide +kernel)) (by decide +kernel)
theorem kd_X11_265 {C : qCx} {w : qWp} {cc : ByteArray} {nL dp n0 n1 pc : Nat} (h : qOk C w RX11 cc nL dp n0 n1) (d : decode cc pc = .ok (.invokevirtual 265, 3)) : qCallOk C w nL dp n0 n1 pc 1 1 yX4_waitsOfAll (.code yX4_waitsOfAll cX4_waitsOfAll 1 (some .int)) := kindV h d ml_X11_265 im_X4_waitsOfAll se_X4_waitsOfAll in_ParentEve_Plan co_X4_waitsOfAll yk_X4_waitsOfAll (by decide)
theorem im_X4_points : Jvm.Cond.instanceMethod yX4_points ∈ qTw := qm5 (List.mem_of_getElem? (i := 51) (by decide +kernel)) (by decide +kernel)
theorem se_X4_points : Jvm.Cond.selects yX4_points.cls yX4_points yX4_points ∈ qTw := qm5 (List.mem_of_getElem? (i := 52) (by decide +kernel)) (by decide +kernel)
theorem co_X4_points : Jvm.Cond.code yX4_points cX4_points 1 (some .int) ∈ qTw := qm5 (List.mem_of_getElem? (i := 53) (by decide +kernel)) (by decide +kernel)
theorem yk_X4_points : qYk yX4_points 0 := ⟨⟨by decide +kernel, by decide +kernel⟩, by decide +kernel⟩
theorem ml_X11_268 : Jvm.Cond.methodLink RX11 268 yX4_points ∈ qTw := qm5 (List.mem_of_getElem? (i := 50) (by decide +kernel)) (by decide +kernel)
theorem kd_X11_268 {C : qCx} {w : qWp} {cc : ByteArray} {nL dp n0 n1 pc : Nat} (h : qOk C w RX11 cc nL dp n0 n1) (d : decode cc pc = .ok (.invokevirtual 268, 3)) : qCallOk C w nL dp n0 n1 pc 1 1 yX4_points (.code yX4_points cX4_points 1 (some .int)) := kindV h d ml_X11_268 im_X4_points se_X4_points in_ParentEve_Plan co_X4_points yk_X4_points (by decide)
theorem dX11_value_0 : decode cX11_value 0 = .ok (.iload_n 1, 1) := by decide +kernel
theorem dX11_value_1 : decode cX11_value 1 = .ok (.tableswitch 63 0 3 #[31, 39, 47, 55], 31) := by decide +kernel
theorem dX11_value_32 : decode cX11_value 32 = .ok (.aload_n 0, 1) := by decide +kernel
theorem dX11_value_33 : decode cX11_value 33 = .ok (.getfield 53, 3) := by decide +kernel
theorem dX11_value_36 : decode cX11_value 36 = .ok (.invokevirtual 259, 3) := by decide +kernel
theorem dX11_value_39 : decode cX11_value 39 = .ok (.ireturn, 1) := by decide +kernel
theorem dX11_value_40 : decode cX11_value 40 = .ok (.aload_n 0, 1) := by decide +kernel
theorem dX11_value_41 : decode cX11_value 41 = .ok (.getfield 53, 3) := by decide +kernel
theorem dX11_value_44 : decode cX11_value 44 = .ok (.invokevirtual 262, 3) := by decide +kernel
theorem dX11_value_47 : decode cX11_value 47 = .ok (.ireturn, 1) := by decide +kernel
theorem dX11_value_48 : decode cX11_value 48 = .ok (.aload_n 0, 1) := by decide +kernel
theorem dX11_value_49 : decode cX11_value 49 = .ok (.getfield 53, 3) := by decide +kernel
theorem dX11_value_52 : decode cX11_value 52 = .ok (.invokevirtual 265, 3) := by decide +kernel
theorem dX11_value_55 : decode cX11_value 55 = .ok (.ireturn, 1) := by decide +kernel
theorem dX11_value_56 : decode cX11_value 56 = .ok (.aload_n 0, 1) := by decide +kernel
theorem dX11_value_57 : decode cX11_value 57 = .ok (.getfield 53, 3) := by decide +kernel
theorem dX11_value_60 : decode cX11_value 60 = .ok (.invokevirtual 268, 3) := by decide +kernel
theorem dX11_value_63 : decode cX11_value 63 = .ok (.ireturn, 1) := by decide +kernel
theorem dX11_value_64 : decode cX11_value 64 = .ok (.iconst (-1), 1) := by decide +kernel
theorem dX11_value_65 : decode cX11_value 65 = .ok (.ireturn, 1) := by decide +kernel
noncomputable def tX11_value_0 : qT (Int32 × qM) :=
  oLi 1 (oSw (0 : Int32) (oC (.int (-1 : Int32)) (eI)) [oLa 0 (oGf 0 5 58 (oCi GX4_mustsLaid 1 (eI))), oLa 0 (oGf 0 5 58 (oCi GX4_laid 1 (eI))), oLa 0 (oGf 0 5 58 (oCi GX4_waitsOfAll 1 (eI))), oLa 0 (oGf 0 5 58 (oCi GX4_points 1 (eI)))])
set_option maxRecDepth 20000 in
theorem sX11_value_0 {C : qCx} {w : qWp} (h : qOk C w RX11 cX11_value 2 1 155 155) (hm : qMt C (some .int)) (hx : qNx C) : qSnd C w 2 155 (qQf C w 155 155 jI) qfin 155 0 (tX11_value_0) :=
  cLi (pc := 0) h dX11_value_0 rfl (jSw (pc := 1) (a := 0) h dX11_value_1 rfl rfl rfl (by decide) rfl (cC (pc := 64) h dX11_value_64 rfl (zI (pc := 65) h hm (Nat.le_refl _) dX11_value_65)) ⟨⟨_, rfl, cLa (pc := 32) h dX11_value_32 rfl (gGf (pc := 33) h dX11_value_33 ff_X11_53_0 (Nat.le_of_ble_eq_true rfl) (Nat.le_of_ble_eq_true rfl) rfl (kCi (pc := 36) h (kd_X11_259 h dX11_value_36) spX4_mustsLaid (by decide) (by decide) (by decide) (by decide) (zI (pc := 39) h hm (Nat.le_refl _) dX11_value_39)))⟩, ⟨⟨_, rfl, cLa (pc := 40) h dX11_value_40 rfl (gGf (pc := 41) h dX11_value_41 ff_X11_53_0 (Nat.le_of_ble_eq_true rfl) (Nat.le_of_ble_eq_true rfl) rfl (kCi (pc := 44) h (kd_X11_262 h dX11_value_44) spX4_laid (by decide) (by decide) (by decide) (by decide) (zI (pc := 47) h hm (Nat.le_refl _) dX11_value_47)))⟩, ⟨⟨_, rfl, cLa (pc := 48) h dX11_value_48 rfl (gGf (pc := 49) h dX11_value_49 ff_X11_53_0 (Nat.le_of_ble_eq_true rfl) (Nat.le_of_ble_eq_true rfl) rfl (kCi (pc := 52) h (kd_X11_265 h dX11_value_52) spX4_waitsOfAll (by decide) (by decide) (by decide) (by decide) (zI (pc := 55) h hm (Nat.le_refl _) dX11_value_55)))⟩, ⟨⟨_, rfl, cLa (pc := 56) h dX11_value_56 rfl (gGf (pc := 57) h dX11_value_57 ff_X11_53_0 (Nat.le_of_ble_eq_true rfl) (Nat.le_of_ble_eq_true rfl) rfl (kCi (pc := 60) h (kd_X11_268 h dX11_value_60) spX4_points (by decide) (by decide) (by decide) (by decide) (zI (pc := 63) h hm (Nat.le_refl _) dX11_value_63)))⟩, trivial⟩⟩⟩⟩)
set_option maxRecDepth 20000 in
theorem lX11_value_0 (a1 : Int32) (m : qM) : tX11_value_0 [some (.ref 0), some (.int a1)] [] m = fX11_value_0 a1 m := rfl
noncomputable def GX11_value : qG Int32 := fun av m => match av with
  | [.ref 0, .int a1] => fX11_value a1 m
  | _ => none
theorem spX11_value : qSpI yX11_value (.code yX11_value cX11_value 2 (some .int)) 1 qfin 155 155 1 GX11_value := by
  intro av m x m' hG
  unfold GX11_value at hG
  split at hG
  · rename_i a1
    rw [fX11_value_d] at hG
    exact ⟨qmeet (J := jI) (r := (x, m')) (av := [.ref 0, .int a1]) (by decide +kernel) (Nat.le_of_ble_eq_true rfl) (fun C w h hm hx hn => sX11_value_0 h hm hx) ((lX11_value_0 _ _).trans hG) (Nat.le_of_ble_eq_true rfl), Or.inl ⟨0, _, 11, _, _, rfl, by decide, rfl, qCk_11, rfl⟩⟩
  · cases hG
theorem im_X10_habitsOf : Jvm.Cond.instanceMethod yX10_habitsOf ∈ qTw := qm5 (List.mem_of_getElem? (i := 59) (by decide +kernel)) (by decide +kernel)
theorem se_X10_habitsOf : Jvm.Cond.selects yX10_habitsOf.cls yX10_habitsOf yX10_habitsOf ∈ qTw := qm5 (List.mem_of_getElem? (i := 60) (by decide +kernel)) (by decide +kernel)
theorem co_X10_habitsOf : Jvm.Cond.code yX10_habitsOf cX10_habitsOf 2 (some .int) ∈ qTw := qm5 (List.mem_of_getElem? (i := 61) (by decide +kernel)) (by decide +kernel)
theorem yk_X10_habitsOf : qYk yX10_habitsOf 1 := ⟨⟨by decide +kernel, by decide +kernel⟩, by decide +kernel⟩
theorem ml_X11_271 : Jvm.Cond.methodLink RX11 271 yX10_habitsOf ∈ qTw := qm5 (List.mem_of_getElem? (i := 58) (by decide +kernel)) (by decide +kernel)
theorem kd_X11_271 {C : qCx} {w : qWp} {cc : ByteArray} {nL dp n0 n1 pc : Nat} (h : qOk C w RX11 cc nL dp n0 n1) (d : decode cc pc = .ok (.invokevirtual 271, 3)) : qCallOk C w nL dp n0 n1 pc 2 1 yX10_habitsOf (.code yX10_habitsOf cX10_habitsOf 2 (some .int)) := kindV h d ml_X11_271 im_X10_habitsOf se_X10_habitsOf in_ParentEve_Ways co_X10_habitsOf yk_X10_habitsOf (by decide)
theorem im_X10_addHabit : Jvm.Cond.instanceMethod yX10_addHabit ∈ qTw := qm5 (List.mem_of_getElem? (i := 63) (by decide +kernel)) (by decide +kernel)
theorem se_X10_addHabit : Jvm.Cond.selects yX10_addHabit.cls yX10_addHabit yX10_addHabit ∈ qTw := qm5 (List.mem_of_getElem? (i := 64) (by decide +kernel)) (by decide +kernel)
theorem co_X10_addHabit : Jvm.Cond.code yX10_addHabit cX10_addHabit 5 (some .int) ∈ qTw := qm5 (List.mem_of_getElem? (i := 65) (by decide +kernel)) (by decide +kernel)
theorem yk_X10_addHabit : qYk yX10_addHabit 2 := ⟨⟨by decide +kernel, by decide +kernel⟩, by decide +kernel⟩
theorem ml_X11_274 : Jvm.Cond.methodLink RX11 274 yX10_addHabit ∈ qTw := qm5 (List.mem_of_getElem? (i := 62) (by decide +kernel)) (by decide +kernel)
theorem kd_X11_274 {C : qCx} {w : qWp} {cc : ByteArray} {nL dp n0 n1 pc : Nat} (h : qOk C w RX11 cc nL dp n0 n1) (d : decode cc pc = .ok (.invokevirtual 274, 3)) : qCallOk C w nL dp n0 n1 pc 3 1 yX10_addHabit (.code yX10_addHabit cX10_addHabit 5 (some .int)) := kindV h d ml_X11_274 im_X10_addHabit se_X10_addHabit in_ParentEve_Ways co_X10_addHabit yk_X10_addHabit (by decide)
theorem dX11_habit_0 : decode cX11_habit 0 = .ok (.iload_n 1, 1) := by decide +kernel
theorem dX11_habit_1 : decode cX11_habit 1 = .ok (.invokestatic 140, 3) := by decide +kernel
theorem dX11_habit_4 : decode cX11_habit 4 = .ok (.ifCond .eq 13, 3) := by decide +kernel
theorem dX11_habit_7 : decode cX11_habit 7 = .ok (.iload_n 2, 1) := by decide +kernel
theorem dX11_habit_8 : decode cX11_habit 8 = .ok (.iconst 0, 1) := by decide +kernel
theorem dX11_habit_9 : decode cX11_habit 9 = .ok (.bipush 60, 2) := by decide +kernel
theorem dX11_habit_11 : decode cX11_habit 11 = .ok (.invokestatic 103, 3) := by decide +kernel
theorem dX11_habit_14 : decode cX11_habit 14 = .ok (.ifCond .ne 6, 3) := by decide +kernel
theorem dX11_habit_17 : decode cX11_habit 17 = .ok (.bipush (-2), 2) := by decide +kernel
theorem dX11_habit_19 : decode cX11_habit 19 = .ok (.ireturn, 1) := by decide +kernel
theorem dX11_habit_20 : decode cX11_habit 20 = .ok (.aload_n 0, 1) := by decide +kernel
theorem dX11_habit_21 : decode cX11_habit 21 = .ok (.getfield 35, 3) := by decide +kernel
theorem dX11_habit_24 : decode cX11_habit 24 = .ok (.iload_n 1, 1) := by decide +kernel
theorem dX11_habit_25 : decode cX11_habit 25 = .ok (.invokevirtual 271, 3) := by decide +kernel
theorem dX11_habit_28 : decode cX11_habit 28 = .ok (.bipush 20, 2) := by decide +kernel
theorem dX11_habit_30 : decode cX11_habit 30 = .ok (.if_icmp .lt 6, 3) := by decide +kernel
theorem dX11_habit_33 : decode cX11_habit 33 = .ok (.bipush (-3), 2) := by decide +kernel
theorem dX11_habit_35 : decode cX11_habit 35 = .ok (.ireturn, 1) := by decide +kernel
theorem dX11_habit_36 : decode cX11_habit 36 = .ok (.aload_n 0, 1) := by decide +kernel
theorem dX11_habit_37 : decode cX11_habit 37 = .ok (.getfield 78, 3) := by decide +kernel
theorem dX11_habit_40 : decode cX11_habit 40 = .ok (.invokevirtual 143, 3) := by decide +kernel
theorem dX11_habit_43 : decode cX11_habit 43 = .ok (.aload_n 0, 1) := by decide +kernel
theorem dX11_habit_44 : decode cX11_habit 44 = .ok (.getfield 35, 3) := by decide +kernel
theorem dX11_habit_47 : decode cX11_habit 47 = .ok (.iload_n 1, 1) := by decide +kernel
theorem dX11_habit_48 : decode cX11_habit 48 = .ok (.iload_n 2, 1) := by decide +kernel
theorem dX11_habit_49 : decode cX11_habit 49 = .ok (.invokevirtual 274, 3) := by decide +kernel
theorem dX11_habit_52 : decode cX11_habit 52 = .ok (.ireturn, 1) := by decide +kernel
noncomputable def tX11_habit_8 : qT (Int32 × qM) :=
  oC (.int (-2 : Int32)) (eI)
noncomputable def wX11_habit_8 (k : qM → Option (Int32 × qM)) : qT (Int32 × qM) := fun lo st m => match lo, st with
  | [_, _, _], [] => k m
  | _, _ => none
set_option maxRecDepth 20000 in
theorem sX11_habit_8 {C : qCx} {w : qWp} (h : qOk C w RX11 cX11_habit 3 2 155 155) (hm : qMt C (some .int)) (hx : qNx C) : qSnd C w 3 155 (qQf C w 155 155 jI) qfin 155 17 (tX11_habit_8) :=
  cB (pc := 17) h dX11_habit_17 rfl (zI (pc := 19) h hm (Nat.le_refl _) dX11_habit_19)
set_option maxRecDepth 20000 in
theorem lX11_habit_8 (m : qM) : tX11_habit_8 [none, none, none] [] m = fX11_habit_8 m := rfl
theorem bX11_habit_8 {C : qCx} {w : qWp} (h : qOk C w RX11 cX11_habit 3 2 155 155) (hm : qMt C (some .int)) (hx : qNx C) : qSnd C w 3 155 (qQf C w 155 155 jI) qfin 155 17 (wX11_habit_8 fX11_habit_8) :=
  qSnd_of (fun lo st m x hr0 => by
    unfold wX11_habit_8 at hr0
    split at hr0
    · exact ⟨_, (qsub_n (qsub_n (qsub_n qsub_nil))), (lX11_habit_8 _).trans hr0⟩
    · cases hr0) (sX11_habit_8 h hm hx)
noncomputable def tX11_habit_0 (j8 : qT (Int32 × qM)) : qT (Int32 × qM) :=
  oLi 1 (oCi GX11_isTeacher 1 (oEq (j8) (oLi 2 (oC (.int (0 : Int32)) (oC (.int (60 : Int32)) (oCi GX11_within 3 (oEq (j8) (oLa 0 (oGf 0 3 7 (oLi 1 (oCi GX10_habitsOf 2 (oC (.int (20 : Int32)) (oCLt (oLa 0 (oGf 0 8 80 (oCv GX1_forget 1 (oLa 0 (oGf 0 3 7 (oLi 1 (oLi 2 (oCi GX10_addHabit 3 (eI))))))))) (oC (.int (-3 : Int32)) (eI)))))))))))))))
set_option maxRecDepth 20000 in
theorem sX11_habit_0 {C : qCx} {w : qWp} (h : qOk C w RX11 cX11_habit 3 2 155 155) (hm : qMt C (some .int)) (hx : qNx C) {j8 : qT (Int32 × qM)} (k8 : qSnd C w 3 155 (qQf C w 155 155 jI) qfin 155 17 j8) : qSnd C w 3 155 (qQf C w 155 155 jI) qfin 155 0 (tX11_habit_0 j8) :=
  cLi (pc := 0) h dX11_habit_0 rfl (kCi (pc := 1) h (kd_X11_140 h dX11_habit_1) spX11_isTeacher (by decide) (by decide) (by decide) (by decide) (jEq (pc := 4) h dX11_habit_4 rfl (k8) (cLi (pc := 7) h dX11_habit_7 rfl (cC (pc := 8) h dX11_habit_8 rfl (cB (pc := 9) h dX11_habit_9 rfl (kCi (pc := 11) h (kd_X11_103 h dX11_habit_11) spX11_within (by decide) (by decide) (by decide) (by decide) (jNe (pc := 14) h dX11_habit_14 rfl (cLa (pc := 20) h dX11_habit_20 rfl (gGf (pc := 21) h dX11_habit_21 ff_X11_35_0 (Nat.le_of_ble_eq_true rfl) (Nat.le_of_ble_eq_true rfl) rfl (cLi (pc := 24) h dX11_habit_24 rfl (kCi (pc := 25) h (kd_X11_271 h dX11_habit_25) spX10_habitsOf (by decide) (by decide) (by decide) (by decide) (cB (pc := 28) h dX11_habit_28 rfl (jCLt (pc := 30) h dX11_habit_30 rfl (cLa (pc := 36) h dX11_habit_36 rfl (gGf (pc := 37) h dX11_habit_37 ff_X11_78_0 (Nat.le_of_ble_eq_true rfl) (Nat.le_of_ble_eq_true rfl) rfl (kCv (pc := 40) h (kd_X11_143 h dX11_habit_40) spX1_forget (by decide) (by decide) (by decide) (by decide) (cLa (pc := 43) h dX11_habit_43 rfl (gGf (pc := 44) h dX11_habit_44 ff_X11_35_0 (Nat.le_of_ble_eq_true rfl) (Nat.le_of_ble_eq_true rfl) rfl (cLi (pc := 47) h dX11_habit_47 rfl (cLi (pc := 48) h dX11_habit_48 rfl (kCi (pc := 49) h (kd_X11_274 h dX11_habit_49) spX10_addHabit (by decide) (by decide) (by decide) (by decide) (zI (pc := 52) h hm (Nat.le_refl _) dX11_habit_52))))))))) (cB (pc := 33) h dX11_habit_33 rfl (zI (pc := 35) h hm (Nat.le_refl _) dX11_habit_35)))))))) (k8))))))))
set_option maxRecDepth 20000 in
theorem lX11_habit_0 (a1 : Int32) (a2 : Int32) (m : qM) : tX11_habit_0 (wX11_habit_8 fX11_habit_8) [some (.ref 0), some (.int a1), some (.int a2)] [] m = fX11_habit_0 a1 a2 m := rfl
noncomputable def GX11_habit : qG Int32 := fun av m => match av with
  | [.ref 0, .int a1, .int a2] => fX11_habit a1 a2 m
  | _ => none
theorem spX11_habit : qSpI yX11_habit (.code yX11_habit cX11_habit 3 (some .int)) 2 qfin 155 155 1 GX11_habit := by
  intro av m x m' hG
  unfold GX11_habit at hG
  split at hG
  · rename_i a1 a2
    rw [fX11_habit_d] at hG
    exact ⟨qmeet (J := jI) (r := (x, m')) (av := [.ref 0, .int a1, .int a2]) (by decide +kernel) (Nat.le_of_ble_eq_true rfl) (fun C w h hm hx hn => sX11_habit_0 h hm hx (bX11_habit_8 h hm hx)) ((lX11_habit_0 _ _ _).trans hG) (Nat.le_of_ble_eq_true rfl), Or.inl ⟨0, _, 11, _, _, rfl, by decide, rfl, qCk_11, rfl⟩⟩
  · cases hG
theorem ml_X11_277 : Jvm.Cond.methodLink RX11 277 yX10_usualOver ∈ qTw := qm5 (List.mem_of_getElem? (i := 70) (by decide +kernel)) (by decide +kernel)
theorem kd_X11_277 {C : qCx} {w : qWp} {cc : ByteArray} {nL dp n0 n1 pc : Nat} (h : qOk C w RX11 cc nL dp n0 n1) (d : decode cc pc = .ok (.invokevirtual 277, 3)) : qCallOk C w nL dp n0 n1 pc 2 1 yX10_usualOver (.code yX10_usualOver cX10_usualOver 3 (some .int)) := kindV h d ml_X11_277 im_X10_usualOver se_X10_usualOver in_ParentEve_Ways co_X10_usualOver yk_X10_usualOver (by decide)
theorem dX11_foretold_0 : decode cX11_foretold 0 = .ok (.iload_n 1, 1) := by decide +kernel
theorem dX11_foretold_1 : decode cX11_foretold 1 = .ok (.invokestatic 140, 3) := by decide +kernel
theorem dX11_foretold_4 : decode cX11_foretold 4 = .ok (.ifCond .eq 14, 3) := by decide +kernel
theorem dX11_foretold_7 : decode cX11_foretold 7 = .ok (.aload_n 0, 1) := by decide +kernel
theorem dX11_foretold_8 : decode cX11_foretold 8 = .ok (.getfield 35, 3) := by decide +kernel
theorem dX11_foretold_11 : decode cX11_foretold 11 = .ok (.iload_n 1, 1) := by decide +kernel
theorem dX11_foretold_12 : decode cX11_foretold 12 = .ok (.invokevirtual 277, 3) := by decide +kernel
theorem dX11_foretold_15 : decode cX11_foretold 15 = .ok (.goto 5, 3) := by decide +kernel
theorem dX11_foretold_18 : decode cX11_foretold 18 = .ok (.bipush (-2), 2) := by decide +kernel
theorem dX11_foretold_20 : decode cX11_foretold 20 = .ok (.ireturn, 1) := by decide +kernel
noncomputable def tX11_foretold_9 : qT (Int32 × qM) :=
  eI
noncomputable def wX11_foretold_9 (k : Int32 → qM → Option (Int32 × qM)) : qT (Int32 × qM) := fun lo st m => match lo, st with
  | [_, _], [.int s0] => k s0 m
  | _, _ => none
set_option maxRecDepth 20000 in
theorem sX11_foretold_9 {C : qCx} {w : qWp} (h : qOk C w RX11 cX11_foretold 2 2 155 155) (hm : qMt C (some .int)) (hx : qNx C) : qSnd C w 2 155 (qQf C w 155 155 jI) qfin 155 20 (tX11_foretold_9) :=
  zI (pc := 20) h hm (Nat.le_refl _) dX11_foretold_20
set_option maxRecDepth 20000 in
theorem lX11_foretold_9 (s0 : Int32) (m : qM) : tX11_foretold_9 [none, none] [(.int s0)] m = fX11_foretold_9 s0 m := rfl
theorem bX11_foretold_9 {C : qCx} {w : qWp} (h : qOk C w RX11 cX11_foretold 2 2 155 155) (hm : qMt C (some .int)) (hx : qNx C) : qSnd C w 2 155 (qQf C w 155 155 jI) qfin 155 20 (wX11_foretold_9 fX11_foretold_9) :=
  qSnd_of (fun lo st m x hr0 => by
    unfold wX11_foretold_9 at hr0
    split at hr0
    · exact ⟨_, (qsub_n (qsub_n qsub_nil)), (lX11_foretold_9 _ _).trans hr0⟩
    · cases hr0) (sX11_foretold_9 h hm hx)
noncomputable def tX11_foretold_0 (j9 : qT (Int32 × qM)) : qT (Int32 × qM) :=
  oLi 1 (oCi GX11_isTeacher 1 (oEq (oC (.int (-2 : Int32)) (j9)) (oLa 0 (oGf 0 3 7 (oLi 1 (oCi GX10_usualOver 2 (j9)))))))
set_option maxRecDepth 20000 in
theorem sX11_foretold_0 {C : qCx} {w : qWp} (h : qOk C w RX11 cX11_foretold 2 2 155 155) (hm : qMt C (some .int)) (hx : qNx C) {j9 : qT (Int32 × qM)} (k9 : qSnd C w 2 155 (qQf C w 155 155 jI) qfin 155 20 j9) : qSnd C w 2 155 (qQf C w 155 155 jI) qfin 155 0 (tX11_foretold_0 j9) :=
  cLi (pc := 0) h dX11_foretold_0 rfl (kCi (pc := 1) h (kd_X11_140 h dX11_foretold_1) spX11_isTeacher (by decide) (by decide) (by decide) (by decide) (jEq (pc := 4) h dX11_foretold_4 rfl (cB (pc := 18) h dX11_foretold_18 rfl (k9)) (cLa (pc := 7) h dX11_foretold_7 rfl (gGf (pc := 8) h dX11_foretold_8 ff_X11_35_0 (Nat.le_of_ble_eq_true rfl) (Nat.le_of_ble_eq_true rfl) rfl (cLi (pc := 11) h dX11_foretold_11 rfl (kCi (pc := 12) h (kd_X11_277 h dX11_foretold_12) spX10_usualOver (by decide) (by decide) (by decide) (by decide) (jGo (pc := 15) h dX11_foretold_15 rfl (k9))))))))
set_option maxRecDepth 20000 in
theorem lX11_foretold_0 (a1 : Int32) (m : qM) : tX11_foretold_0 (wX11_foretold_9 fX11_foretold_9) [some (.ref 0), some (.int a1)] [] m = fX11_foretold_0 a1 m := rfl
noncomputable def GX11_foretold : qG Int32 := fun av m => match av with
  | [.ref 0, .int a1] => fX11_foretold a1 m
  | _ => none
theorem spX11_foretold : qSpI yX11_foretold (.code yX11_foretold cX11_foretold 2 (some .int)) 2 qfin 155 155 1 GX11_foretold := by
  intro av m x m' hG
  unfold GX11_foretold at hG
  split at hG
  · rename_i a1
    rw [fX11_foretold_d] at hG
    exact ⟨qmeet (J := jI) (r := (x, m')) (av := [.ref 0, .int a1]) (by decide +kernel) (Nat.le_of_ble_eq_true rfl) (fun C w h hm hx hn => sX11_foretold_0 h hm hx (bX11_foretold_9 h hm hx)) ((lX11_foretold_0 _ _).trans hG) (Nat.le_of_ble_eq_true rfl), Or.inl ⟨0, _, 11, _, _, rfl, by decide, rfl, qCk_11, rfl⟩⟩
  · cases hG
theorem dX11_begin_0 : decode cX11_begin 0 = .ok (.aload_n 0, 1) := by decide +kernel
theorem dX11_begin_1 : decode cX11_begin 1 = .ok (.getfield 91, 3) := by decide +kernel
theorem dX11_begin_4 : decode cX11_begin 4 = .ok (.ifCond .eq 6, 3) := by decide +kernel
theorem dX11_begin_7 : decode cX11_begin 7 = .ok (.bipush (-4), 2) := by decide +kernel
theorem dX11_begin_9 : decode cX11_begin 9 = .ok (.ireturn, 1) := by decide +kernel
theorem dX11_begin_10 : decode cX11_begin 10 = .ok (.aload_n 0, 1) := by decide +kernel
theorem dX11_begin_11 : decode cX11_begin 11 = .ok (.iconst 1, 1) := by decide +kernel
theorem dX11_begin_12 : decode cX11_begin 12 = .ok (.putfield 91, 3) := by decide +kernel
theorem dX11_begin_15 : decode cX11_begin 15 = .ok (.aload_n 0, 1) := by decide +kernel
theorem dX11_begin_16 : decode cX11_begin 16 = .ok (.getfield 53, 3) := by decide +kernel
theorem dX11_begin_19 : decode cX11_begin 19 = .ok (.invokevirtual 262, 3) := by decide +kernel
theorem dX11_begin_22 : decode cX11_begin 22 = .ok (.ireturn, 1) := by decide +kernel
noncomputable def tX11_begin_0 : qT (Int32 × qM) :=
  oLa 0 (oGi 0 10 (oEq (oLa 0 (oC (.int (1 : Int32)) (oPz 0 10 (oLa 0 (oGf 0 5 58 (oCi GX4_laid 1 (eI))))))) (oC (.int (-4 : Int32)) (eI))))
set_option maxRecDepth 20000 in
theorem sX11_begin_0 {C : qCx} {w : qWp} (h : qOk C w RX11 cX11_begin 1 1 155 155) (hm : qMt C (some .int)) (hx : qNx C) : qSnd C w 1 155 (qQf C w 155 155 jI) qfin 155 0 (tX11_begin_0) :=
  cLa (pc := 0) h dX11_begin_0 rfl (gGz (pc := 1) h dX11_begin_1 ff_X11_91_0 (Nat.le_of_ble_eq_true rfl) (Nat.le_of_ble_eq_true rfl) (jEq (pc := 4) h dX11_begin_4 rfl (cLa (pc := 10) h dX11_begin_10 rfl (cC (pc := 11) h dX11_begin_11 rfl (gPz (pc := 12) h dX11_begin_12 ff_X11_91_0 (Or.inl rfl) (Nat.le_of_ble_eq_true rfl) (Nat.le_of_ble_eq_true rfl) (cLa (pc := 15) h dX11_begin_15 rfl (gGf (pc := 16) h dX11_begin_16 ff_X11_53_0 (Nat.le_of_ble_eq_true rfl) (Nat.le_of_ble_eq_true rfl) rfl (kCi (pc := 19) h (kd_X11_262 h dX11_begin_19) spX4_laid (by decide) (by decide) (by decide) (by decide) (zI (pc := 22) h hm (Nat.le_refl _) dX11_begin_22))))))) (cB (pc := 7) h dX11_begin_7 rfl (zI (pc := 9) h hm (Nat.le_refl _) dX11_begin_9))))
set_option maxRecDepth 20000 in
theorem lX11_begin_0 (m : qM) : tX11_begin_0 [some (.ref 0)] [] m = fX11_begin_0 m := rfl
noncomputable def GX11_begin : qG Int32 := fun av m => match av with
  | [.ref 0] => fX11_begin m
  | _ => none
theorem spX11_begin : qSpI yX11_begin (.code yX11_begin cX11_begin 1 (some .int)) 1 qfin 155 155 1 GX11_begin := by
  intro av m x m' hG
  unfold GX11_begin at hG
  split at hG
  · rw [fX11_begin_d] at hG
    exact ⟨qmeet (J := jI) (r := (x, m')) (av := [.ref 0]) (by decide +kernel) (Nat.le_of_ble_eq_true rfl) (fun C w h hm hx hn => sX11_begin_0 h hm hx) ((lX11_begin_0 _).trans hG) (Nat.le_of_ble_eq_true rfl), Or.inl ⟨0, _, 11, _, _, rfl, by decide, rfl, qCk_11, rfl⟩⟩
  · cases hG
theorem im_X9_canBeAt : Jvm.Cond.instanceMethod yX9_canBeAt ∈ qTw := qm5 (List.mem_of_getElem? (i := 83) (by decide +kernel)) (by decide +kernel)
theorem se_X9_canBeAt : Jvm.Cond.selects yX9_canBeAt.cls yX9_canBeAt yX9_canBeAt ∈ qTw := qm5 (List.mem_of_getElem? (i := 84) (by decide +kernel)) (by decide +kernel)
theorem co_X9_canBeAt : Jvm.Cond.code yX9_canBeAt cX9_canBeAt 2 (some .boolean) ∈ qTw := qm5 (List.mem_of_getElem? (i := 85) (by decide +kernel)) (by decide +kernel)
theorem yk_X9_canBeAt : qYk yX9_canBeAt 1 := ⟨⟨by decide +kernel, by decide +kernel⟩, by decide +kernel⟩
theorem ml_X11_280 : Jvm.Cond.methodLink RX11 280 yX9_canBeAt ∈ qTw := qm5 (List.mem_of_getElem? (i := 82) (by decide +kernel)) (by decide +kernel)
theorem kd_X11_280 {C : qCx} {w : qWp} {cc : ByteArray} {nL dp n0 n1 pc : Nat} (h : qOk C w RX11 cc nL dp n0 n1) (d : decode cc pc = .ok (.invokevirtual 280, 3)) : qCallOk C w nL dp n0 n1 pc 2 1 yX9_canBeAt (.code yX9_canBeAt cX9_canBeAt 2 (some .boolean)) := kindV h d ml_X11_280 im_X9_canBeAt se_X9_canBeAt in_ParentEve_Tellings co_X9_canBeAt yk_X9_canBeAt (by decide)
theorem im_X9_add : Jvm.Cond.instanceMethod yX9_add ∈ qTw := qm5 (List.mem_of_getElem? (i := 94) (by decide +kernel)) (by decide +kernel)
theorem se_X9_add : Jvm.Cond.selects yX9_add.cls yX9_add yX9_add ∈ qTw := qm5 (List.mem_of_getElem? (i := 95) (by decide +kernel)) (by decide +kernel)
theorem co_X9_add : Jvm.Cond.code yX9_add cX9_add 6 (some .int) ∈ qTw := qm5 (List.mem_of_getElem? (i := 96) (by decide +kernel)) (by decide +kernel)
theorem yk_X9_add : qYk yX9_add 5 := ⟨⟨by decide +kernel, by decide +kernel⟩, by decide +kernel⟩
theorem ml_X11_283 : Jvm.Cond.methodLink RX11 283 yX9_add ∈ qTw := qm5 (List.mem_of_getElem? (i := 93) (by decide +kernel)) (by decide +kernel)
theorem kd_X11_283 {C : qCx} {w : qWp} {cc : ByteArray} {nL dp n0 n1 pc : Nat} (h : qOk C w RX11 cc nL dp n0 n1) (d : decode cc pc = .ok (.invokevirtual 283, 3)) : qCallOk C w nL dp n0 n1 pc 6 1 yX9_add (.code yX9_add cX9_add 6 (some .int)) := kindV h d ml_X11_283 im_X9_add se_X9_add in_ParentEve_Tellings co_X9_add yk_X9_add (by decide)
theorem dX11_over_0 : decode cX11_over 0 = .ok (.aload_n 0, 1) := by decide +kernel
theorem dX11_over_1 : decode cX11_over 1 = .ok (.getfield 69, 3) := by decide +kernel
theorem dX11_over_4 : decode cX11_over 4 = .ok (.iload_n 1, 1) := by decide +kernel
theorem dX11_over_5 : decode cX11_over 5 = .ok (.invokevirtual 280, 3) := by decide +kernel
theorem dX11_over_8 : decode cX11_over 8 = .ok (.ifCond .eq 24, 3) := by decide +kernel
theorem dX11_over_11 : decode cX11_over 11 = .ok (.aload_n 0, 1) := by decide +kernel
theorem dX11_over_12 : decode cX11_over 12 = .ok (.getfield 53, 3) := by decide +kernel
theorem dX11_over_15 : decode cX11_over 15 = .ok (.iload_n 2, 1) := by decide +kernel
theorem dX11_over_16 : decode cX11_over 16 = .ok (.invokevirtual 196, 3) := by decide +kernel
theorem dX11_over_19 : decode cX11_over 19 = .ok (.ifCond .eq 13, 3) := by decide +kernel
theorem dX11_over_22 : decode cX11_over 22 = .ok (.iload_n 3, 1) := by decide +kernel
theorem dX11_over_23 : decode cX11_over 23 = .ok (.iconst 0, 1) := by decide +kernel
theorem dX11_over_24 : decode cX11_over 24 = .ok (.bipush 60, 2) := by decide +kernel
theorem dX11_over_26 : decode cX11_over 26 = .ok (.invokestatic 103, 3) := by decide +kernel
theorem dX11_over_29 : decode cX11_over 29 = .ok (.ifCond .ne 6, 3) := by decide +kernel
theorem dX11_over_32 : decode cX11_over 32 = .ok (.bipush (-2), 2) := by decide +kernel
theorem dX11_over_34 : decode cX11_over 34 = .ok (.ireturn, 1) := by decide +kernel
theorem dX11_over_35 : decode cX11_over 35 = .ok (.aload_n 0, 1) := by decide +kernel
theorem dX11_over_36 : decode cX11_over 36 = .ok (.getfield 91, 3) := by decide +kernel
theorem dX11_over_39 : decode cX11_over 39 = .ok (.ifCond .eq 29, 3) := by decide +kernel
theorem dX11_over_42 : decode cX11_over 42 = .ok (.aload_n 0, 1) := by decide +kernel
theorem dX11_over_43 : decode cX11_over 43 = .ok (.getfield 53, 3) := by decide +kernel
theorem dX11_over_46 : decode cX11_over 46 = .ok (.iload_n 2, 1) := by decide +kernel
theorem dX11_over_47 : decode cX11_over 47 = .ok (.invokevirtual 199, 3) := by decide +kernel
theorem dX11_over_50 : decode cX11_over 50 = .ok (.ifCond .eq 18, 3) := by decide +kernel
theorem dX11_over_53 : decode cX11_over 53 = .ok (.aload_n 0, 1) := by decide +kernel
theorem dX11_over_54 : decode cX11_over 54 = .ok (.getfield 69, 3) := by decide +kernel
theorem dX11_over_57 : decode cX11_over 57 = .ok (.iconst 0, 1) := by decide +kernel
theorem dX11_over_58 : decode cX11_over 58 = .ok (.iload_n 1, 1) := by decide +kernel
theorem dX11_over_59 : decode cX11_over 59 = .ok (.iload_n 2, 1) := by decide +kernel
theorem dX11_over_60 : decode cX11_over 60 = .ok (.iload_n 3, 1) := by decide +kernel
theorem dX11_over_61 : decode cX11_over 61 = .ok (.iconst 0, 1) := by decide +kernel
theorem dX11_over_62 : decode cX11_over 62 = .ok (.invokevirtual 283, 3) := by decide +kernel
theorem dX11_over_65 : decode cX11_over 65 = .ok (.goto 5, 3) := by decide +kernel
theorem dX11_over_68 : decode cX11_over 68 = .ok (.bipush (-4), 2) := by decide +kernel
theorem dX11_over_70 : decode cX11_over 70 = .ok (.ireturn, 1) := by decide +kernel
noncomputable def tX11_over_15 : qT (Int32 × qM) :=
  oC (.int (-2 : Int32)) (eI)
noncomputable def wX11_over_15 (k : qM → Option (Int32 × qM)) : qT (Int32 × qM) := fun lo st m => match lo, st with
  | [_, _, _, _], [] => k m
  | _, _ => none
set_option maxRecDepth 20000 in
theorem sX11_over_15 {C : qCx} {w : qWp} (h : qOk C w RX11 cX11_over 4 3 155 155) (hm : qMt C (some .int)) (hx : qNx C) : qSnd C w 4 155 (qQf C w 155 155 jI) qfin 155 32 (tX11_over_15) :=
  cB (pc := 32) h dX11_over_32 rfl (zI (pc := 34) h hm (Nat.le_refl _) dX11_over_34)
set_option maxRecDepth 20000 in
theorem lX11_over_15 (m : qM) : tX11_over_15 [none, none, none, none] [] m = fX11_over_15 m := rfl
theorem bX11_over_15 {C : qCx} {w : qWp} (h : qOk C w RX11 cX11_over 4 3 155 155) (hm : qMt C (some .int)) (hx : qNx C) : qSnd C w 4 155 (qQf C w 155 155 jI) qfin 155 32 (wX11_over_15 fX11_over_15) :=
  qSnd_of (fun lo st m x hr0 => by
    unfold wX11_over_15 at hr0
    split at hr0
    · exact ⟨_, (qsub_n (qsub_n (qsub_n (qsub_n qsub_nil)))), (lX11_over_15 _).trans hr0⟩
    · cases hr0) (sX11_over_15 h hm hx)
noncomputable def tX11_over_35 : qT (Int32 × qM) :=
  eI
noncomputable def wX11_over_35 (k : Int32 → qM → Option (Int32 × qM)) : qT (Int32 × qM) := fun lo st m => match lo, st with
  | [_, _, _, _], [.int s0] => k s0 m
  | _, _ => none
set_option maxRecDepth 20000 in
theorem sX11_over_35 {C : qCx} {w : qWp} (h : qOk C w RX11 cX11_over 4 3 155 155) (hm : qMt C (some .int)) (hx : qNx C) : qSnd C w 4 155 (qQf C w 155 155 jI) qfin 155 70 (tX11_over_35) :=
  zI (pc := 70) h hm (Nat.le_refl _) dX11_over_70
set_option maxRecDepth 20000 in
theorem lX11_over_35 (s0 : Int32) (m : qM) : tX11_over_35 [none, none, none, none] [(.int s0)] m = fX11_over_35 s0 m := rfl
theorem bX11_over_35 {C : qCx} {w : qWp} (h : qOk C w RX11 cX11_over 4 3 155 155) (hm : qMt C (some .int)) (hx : qNx C) : qSnd C w 4 155 (qQf C w 155 155 jI) qfin 155 70 (wX11_over_35 fX11_over_35) :=
  qSnd_of (fun lo st m x hr0 => by
    unfold wX11_over_35 at hr0
    split at hr0
    · exact ⟨_, (qsub_n (qsub_n (qsub_n (qsub_n qsub_nil)))), (lX11_over_35 _ _).trans hr0⟩
    · cases hr0) (sX11_over_35 h hm hx)
noncomputable def tX11_over_34 (j35 : qT (Int32 × qM)) : qT (Int32 × qM) :=
  oC (.int (-4 : Int32)) (j35)
noncomputable def wX11_over_34 (k : qM → Option (Int32 × qM)) : qT (Int32 × qM) := fun lo st m => match lo, st with
  | [_, _, _, _], [] => k m
  | _, _ => none
set_option maxRecDepth 20000 in
theorem sX11_over_34 {C : qCx} {w : qWp} (h : qOk C w RX11 cX11_over 4 3 155 155) (hm : qMt C (some .int)) (hx : qNx C) {j35 : qT (Int32 × qM)} (k35 : qSnd C w 4 155 (qQf C w 155 155 jI) qfin 155 70 j35) : qSnd C w 4 155 (qQf C w 155 155 jI) qfin 155 68 (tX11_over_34 j35) :=
  cB (pc := 68) h dX11_over_68 rfl (k35)
set_option maxRecDepth 20000 in
theorem lX11_over_34 (m : qM) : tX11_over_34 (wX11_over_35 fX11_over_35) [none, none, none, none] [] m = fX11_over_34 m := rfl
theorem bX11_over_34 {C : qCx} {w : qWp} (h : qOk C w RX11 cX11_over 4 3 155 155) (hm : qMt C (some .int)) (hx : qNx C) : qSnd C w 4 155 (qQf C w 155 155 jI) qfin 155 68 (wX11_over_34 fX11_over_34) :=
  qSnd_of (fun lo st m x hr0 => by
    unfold wX11_over_34 at hr0
    split at hr0
    · exact ⟨_, (qsub_n (qsub_n (qsub_n (qsub_n qsub_nil)))), (lX11_over_34 _).trans hr0⟩
    · cases hr0) (sX11_over_34 h hm hx (bX11_over_35 h hm hx))
noncomputable def tX11_over_0 (j15 : qT (Int32 × qM)) (j34 : qT (Int32 × qM)) (j35 : qT (Int32 × qM)) : qT (Int32 × qM) :=
  oLa 0 (oGf 0 7 74 (oLi 1 (oCi GX9_canBeAt 2 (oEq (j15) (oLa 0 (oGf 0 5 58 (oLi 2 (oCi GX4_isAsk 2 (oEq (j15) (oLi 3 (oC (.int (0 : Int32)) (oC (.int (60 : Int32)) (oCi GX11_within 3 (oEq (j15) (oLa 0 (oGi 0 10 (oEq (j34) (oLa 0 (oGf 0 5 58 (oLi 2 (oCi GX4_isLaid 2 (oEq (j34) (oLa 0 (oGf 0 7 74 (oC (.int (0 : Int32)) (oLi 1 (oLi 2 (oLi 3 (oC (.int (0 : Int32)) (oCi GX9_add 6 (j35)))))))))))))))))))))))))))))))
set_option maxRecDepth 20000 in
theorem sX11_over_0 {C : qCx} {w : qWp} (h : qOk C w RX11 cX11_over 4 3 155 155) (hm : qMt C (some .int)) (hx : qNx C) {j15 : qT (Int32 × qM)} {j34 : qT (Int32 × qM)} {j35 : qT (Int32 × qM)} (k15 : qSnd C w 4 155 (qQf C w 155 155 jI) qfin 155 32 j15) (k34 : qSnd C w 4 155 (qQf C w 155 155 jI) qfin 155 68 j34) (k35 : qSnd C w 4 155 (qQf C w 155 155 jI) qfin 155 70 j35) : qSnd C w 4 155 (qQf C w 155 155 jI) qfin 155 0 (tX11_over_0 j15 j34 j35) :=
  cLa (pc := 0) h dX11_over_0 rfl (gGf (pc := 1) h dX11_over_1 ff_X11_69_0 (Nat.le_of_ble_eq_true rfl) (Nat.le_of_ble_eq_true rfl) rfl (cLi (pc := 4) h dX11_over_4 rfl (kCi (pc := 5) h (kd_X11_280 h dX11_over_5) spX9_canBeAt (by decide) (by decide) (by decide) (by decide) (jEq (pc := 8) h dX11_over_8 rfl (k15) (cLa (pc := 11) h dX11_over_11 rfl (gGf (pc := 12) h dX11_over_12 ff_X11_53_0 (Nat.le_of_ble_eq_true rfl) (Nat.le_of_ble_eq_true rfl) rfl (cLi (pc := 15) h dX11_over_15 rfl (kCi (pc := 16) h (kd_X11_196 h dX11_over_16) spX4_isAsk (by decide) (by decide) (by decide) (by decide) (jEq (pc := 19) h dX11_over_19 rfl (k15) (cLi (pc := 22) h dX11_over_22 rfl (cC (pc := 23) h dX11_over_23 rfl (cB (pc := 24) h dX11_over_24 rfl (kCi (pc := 26) h (kd_X11_103 h dX11_over_26) spX11_within (by decide) (by decide) (by decide) (by decide) (jNe (pc := 29) h dX11_over_29 rfl (cLa (pc := 35) h dX11_over_35 rfl (gGz (pc := 36) h dX11_over_36 ff_X11_91_0 (Nat.le_of_ble_eq_true rfl) (Nat.le_of_ble_eq_true rfl) (jEq (pc := 39) h dX11_over_39 rfl (k34) (cLa (pc := 42) h dX11_over_42 rfl (gGf (pc := 43) h dX11_over_43 ff_X11_53_0 (Nat.le_of_ble_eq_true rfl) (Nat.le_of_ble_eq_true rfl) rfl (cLi (pc := 46) h dX11_over_46 rfl (kCi (pc := 47) h (kd_X11_199 h dX11_over_47) spX4_isLaid (by decide) (by decide) (by decide) (by decide) (jEq (pc := 50) h dX11_over_50 rfl (k34) (cLa (pc := 53) h dX11_over_53 rfl (gGf (pc := 54) h dX11_over_54 ff_X11_69_0 (Nat.le_of_ble_eq_true rfl) (Nat.le_of_ble_eq_true rfl) rfl (cC (pc := 57) h dX11_over_57 rfl (cLi (pc := 58) h dX11_over_58 rfl (cLi (pc := 59) h dX11_over_59 rfl (cLi (pc := 60) h dX11_over_60 rfl (cC (pc := 61) h dX11_over_61 rfl (kCi (pc := 62) h (kd_X11_283 h dX11_over_62) spX9_add (by decide) (by decide) (by decide) (by decide) (jGo (pc := 65) h dX11_over_65 rfl (k35)))))))))))))))))) (k15)))))))))))))))
set_option maxRecDepth 20000 in
theorem lX11_over_0 (a1 : Int32) (a2 : Int32) (a3 : Int32) (m : qM) : tX11_over_0 (wX11_over_15 fX11_over_15) (wX11_over_34 fX11_over_34) (wX11_over_35 fX11_over_35) [some (.ref 0), some (.int a1), some (.int a2), some (.int a3)] [] m = fX11_over_0 a1 a2 a3 m := rfl
noncomputable def GX11_over : qG Int32 := fun av m => match av with
  | [.ref 0, .int a1, .int a2, .int a3] => fX11_over a1 a2 a3 m
  | _ => none
theorem spX11_over : qSpI yX11_over (.code yX11_over cX11_over 4 (some .int)) 3 qfin 155 155 1 GX11_over := by
  intro av m x m' hG
  unfold GX11_over at hG
  split at hG
  · rename_i a1 a2 a3
    rw [fX11_over_d] at hG
    exact ⟨qmeet (J := jI) (r := (x, m')) (av := [.ref 0, .int a1, .int a2, .int a3]) (by decide +kernel) (Nat.le_of_ble_eq_true rfl) (fun C w h hm hx hn => sX11_over_0 h hm hx (bX11_over_15 h hm hx) (bX11_over_34 h hm hx) (bX11_over_35 h hm hx)) ((lX11_over_0 _ _ _ _).trans hG) (Nat.le_of_ble_eq_true rfl), Or.inl ⟨0, _, 11, _, _, rfl, by decide, rfl, qCk_11, rfl⟩⟩
  · cases hG
theorem dX11_absent_0 : decode cX11_absent 0 = .ok (.aload_n 0, 1) := by decide +kernel
theorem dX11_absent_1 : decode cX11_absent 1 = .ok (.getfield 69, 3) := by decide +kernel
theorem dX11_absent_4 : decode cX11_absent 4 = .ok (.iload_n 1, 1) := by decide +kernel
theorem dX11_absent_5 : decode cX11_absent 5 = .ok (.invokevirtual 280, 3) := by decide +kernel
theorem dX11_absent_8 : decode cX11_absent 8 = .ok (.ifCond .eq 14, 3) := by decide +kernel
theorem dX11_absent_11 : decode cX11_absent 11 = .ok (.aload_n 0, 1) := by decide +kernel
theorem dX11_absent_12 : decode cX11_absent 12 = .ok (.getfield 53, 3) := by decide +kernel
theorem dX11_absent_15 : decode cX11_absent 15 = .ok (.iload_n 2, 1) := by decide +kernel
theorem dX11_absent_16 : decode cX11_absent 16 = .ok (.invokevirtual 196, 3) := by decide +kernel
theorem dX11_absent_19 : decode cX11_absent 19 = .ok (.ifCond .ne 6, 3) := by decide +kernel
theorem dX11_absent_22 : decode cX11_absent 22 = .ok (.bipush (-2), 2) := by decide +kernel
theorem dX11_absent_24 : decode cX11_absent 24 = .ok (.ireturn, 1) := by decide +kernel
theorem dX11_absent_25 : decode cX11_absent 25 = .ok (.aload_n 0, 1) := by decide +kernel
theorem dX11_absent_26 : decode cX11_absent 26 = .ok (.getfield 91, 3) := by decide +kernel
theorem dX11_absent_29 : decode cX11_absent 29 = .ok (.ifCond .eq 37, 3) := by decide +kernel
theorem dX11_absent_32 : decode cX11_absent 32 = .ok (.aload_n 0, 1) := by decide +kernel
theorem dX11_absent_33 : decode cX11_absent 33 = .ok (.getfield 53, 3) := by decide +kernel
theorem dX11_absent_36 : decode cX11_absent 36 = .ok (.iload_n 2, 1) := by decide +kernel
theorem dX11_absent_37 : decode cX11_absent 37 = .ok (.invokevirtual 199, 3) := by decide +kernel
theorem dX11_absent_40 : decode cX11_absent 40 = .ok (.ifCond .eq 26, 3) := by decide +kernel
theorem dX11_absent_43 : decode cX11_absent 43 = .ok (.aload_n 0, 1) := by decide +kernel
theorem dX11_absent_44 : decode cX11_absent 44 = .ok (.getfield 69, 3) := by decide +kernel
theorem dX11_absent_47 : decode cX11_absent 47 = .ok (.iconst 1, 1) := by decide +kernel
theorem dX11_absent_48 : decode cX11_absent 48 = .ok (.iload_n 1, 1) := by decide +kernel
theorem dX11_absent_49 : decode cX11_absent 49 = .ok (.iload_n 2, 1) := by decide +kernel
theorem dX11_absent_50 : decode cX11_absent 50 = .ok (.iload_n 3, 1) := by decide +kernel
theorem dX11_absent_51 : decode cX11_absent 51 = .ok (.ifCond .eq 7, 3) := by decide +kernel
theorem dX11_absent_54 : decode cX11_absent 54 = .ok (.iconst 1, 1) := by decide +kernel
theorem dX11_absent_55 : decode cX11_absent 55 = .ok (.goto 4, 3) := by decide +kernel
theorem dX11_absent_58 : decode cX11_absent 58 = .ok (.iconst 0, 1) := by decide +kernel
theorem dX11_absent_59 : decode cX11_absent 59 = .ok (.iconst 0, 1) := by decide +kernel
theorem dX11_absent_60 : decode cX11_absent 60 = .ok (.invokevirtual 283, 3) := by decide +kernel
theorem dX11_absent_63 : decode cX11_absent 63 = .ok (.goto 5, 3) := by decide +kernel
theorem dX11_absent_66 : decode cX11_absent 66 = .ok (.bipush (-4), 2) := by decide +kernel
theorem dX11_absent_68 : decode cX11_absent 68 = .ok (.ireturn, 1) := by decide +kernel
noncomputable def tX11_absent_10 : qT (Int32 × qM) :=
  oC (.int (-2 : Int32)) (eI)
noncomputable def wX11_absent_10 (k : qM → Option (Int32 × qM)) : qT (Int32 × qM) := fun lo st m => match lo, st with
  | [_, _, _, _], [] => k m
  | _, _ => none
set_option maxRecDepth 20000 in
theorem sX11_absent_10 {C : qCx} {w : qWp} (h : qOk C w RX11 cX11_absent 4 3 155 155) (hm : qMt C (some .int)) (hx : qNx C) : qSnd C w 4 155 (qQf C w 155 155 jI) qfin 155 22 (tX11_absent_10) :=
  cB (pc := 22) h dX11_absent_22 rfl (zI (pc := 24) h hm (Nat.le_refl _) dX11_absent_24)
set_option maxRecDepth 20000 in
theorem lX11_absent_10 (m : qM) : tX11_absent_10 [none, none, none, none] [] m = fX11_absent_10 m := rfl
theorem bX11_absent_10 {C : qCx} {w : qWp} (h : qOk C w RX11 cX11_absent 4 3 155 155) (hm : qMt C (some .int)) (hx : qNx C) : qSnd C w 4 155 (qQf C w 155 155 jI) qfin 155 22 (wX11_absent_10 fX11_absent_10) :=
  qSnd_of (fun lo st m x hr0 => by
    unfold wX11_absent_10 at hr0
    split at hr0
    · exact ⟨_, (qsub_n (qsub_n (qsub_n (qsub_n qsub_nil)))), (lX11_absent_10 _).trans hr0⟩
    · cases hr0) (sX11_absent_10 h hm hx)
noncomputable def tX11_absent_34 : qT (Int32 × qM) :=
  eI
noncomputable def wX11_absent_34 (k : Int32 → qM → Option (Int32 × qM)) : qT (Int32 × qM) := fun lo st m => match lo, st with
  | [_, _, _, _], [.int s0] => k s0 m
  | _, _ => none
set_option maxRecDepth 20000 in
theorem sX11_absent_34 {C : qCx} {w : qWp} (h : qOk C w RX11 cX11_absent 4 3 155 155) (hm : qMt C (some .int)) (hx : qNx C) : qSnd C w 4 155 (qQf C w 155 155 jI) qfin 155 68 (tX11_absent_34) :=
  zI (pc := 68) h hm (Nat.le_refl _) dX11_absent_68
set_option maxRecDepth 20000 in
theorem lX11_absent_34 (s0 : Int32) (m : qM) : tX11_absent_34 [none, none, none, none] [(.int s0)] m = fX11_absent_34 s0 m := rfl
theorem bX11_absent_34 {C : qCx} {w : qWp} (h : qOk C w RX11 cX11_absent 4 3 155 155) (hm : qMt C (some .int)) (hx : qNx C) : qSnd C w 4 155 (qQf C w 155 155 jI) qfin 155 68 (wX11_absent_34 fX11_absent_34) :=
  qSnd_of (fun lo st m x hr0 => by
    unfold wX11_absent_34 at hr0
    split at hr0
    · exact ⟨_, (qsub_n (qsub_n (qsub_n (qsub_n qsub_nil)))), (lX11_absent_34 _ _).trans hr0⟩
    · cases hr0) (sX11_absent_34 h hm hx)
noncomputable def tX11_absent_33 (j34 : qT (Int32 × qM)) : qT (Int32 × qM) :=
  oC (.int (-4 : Int32)) (j34)
noncomputable def wX11_absent_33 (k : qM → Option (Int32 × qM)) : qT (Int32 × qM) := fun lo st m => match lo, st with
  | [_, _, _, _], [] => k m
  | _, _ => none
set_option maxRecDepth 20000 in
theorem sX11_absent_33 {C : qCx} {w : qWp} (h : qOk C w RX11 cX11_absent 4 3 155 155) (hm : qMt C (some .int)) (hx : qNx C) {j34 : qT (Int32 × qM)} (k34 : qSnd C w 4 155 (qQf C w 155 155 jI) qfin 155 68 j34) : qSnd C w 4 155 (qQf C w 155 155 jI) qfin 155 66 (tX11_absent_33 j34) :=
  cB (pc := 66) h dX11_absent_66 rfl (k34)
set_option maxRecDepth 20000 in
theorem lX11_absent_33 (m : qM) : tX11_absent_33 (wX11_absent_34 fX11_absent_34) [none, none, none, none] [] m = fX11_absent_33 m := rfl
theorem bX11_absent_33 {C : qCx} {w : qWp} (h : qOk C w RX11 cX11_absent 4 3 155 155) (hm : qMt C (some .int)) (hx : qNx C) : qSnd C w 4 155 (qQf C w 155 155 jI) qfin 155 66 (wX11_absent_33 fX11_absent_33) :=
  qSnd_of (fun lo st m x hr0 => by
    unfold wX11_absent_33 at hr0
    split at hr0
    · exact ⟨_, (qsub_n (qsub_n (qsub_n (qsub_n qsub_nil)))), (lX11_absent_33 _).trans hr0⟩
    · cases hr0) (sX11_absent_33 h hm hx (bX11_absent_34 h hm hx))
noncomputable def tX11_absent_30 (j34 : qT (Int32 × qM)) : qT (Int32 × qM) :=
  oC (.int (0 : Int32)) (oCi GX9_add 6 (j34))
noncomputable def wX11_absent_30 (k : Int32 → Int32 → Int32 → Int32 → qM → Option (Int32 × qM)) : qT (Int32 × qM) := fun lo st m => match lo, st with
  | [_, _, _, _], [.int s0, .int s1, .int s2, .int s3, .ref 74] => k s0 s1 s2 s3 m
  | _, _ => none
set_option maxRecDepth 20000 in
theorem sX11_absent_30 {C : qCx} {w : qWp} (h : qOk C w RX11 cX11_absent 4 3 155 155) (hm : qMt C (some .int)) (hx : qNx C) {j34 : qT (Int32 × qM)} (k34 : qSnd C w 4 155 (qQf C w 155 155 jI) qfin 155 68 j34) : qSnd C w 4 155 (qQf C w 155 155 jI) qfin 155 59 (tX11_absent_30 j34) :=
  cC (pc := 59) h dX11_absent_59 rfl (kCi (pc := 60) h (kd_X11_283 h dX11_absent_60) spX9_add (by decide) (by decide) (by decide) (by decide) (jGo (pc := 63) h dX11_absent_63 rfl (k34)))
set_option maxRecDepth 20000 in
theorem lX11_absent_30 (s0 : Int32) (s1 : Int32) (s2 : Int32) (s3 : Int32) (m : qM) : tX11_absent_30 (wX11_absent_34 fX11_absent_34) [none, none, none, none] [(.int s0), (.int s1), (.int s2), (.int s3), (.ref 74)] m = fX11_absent_30 s0 s1 s2 s3 m := rfl
theorem bX11_absent_30 {C : qCx} {w : qWp} (h : qOk C w RX11 cX11_absent 4 3 155 155) (hm : qMt C (some .int)) (hx : qNx C) : qSnd C w 4 155 (qQf C w 155 155 jI) qfin 155 59 (wX11_absent_30 fX11_absent_30) :=
  qSnd_of (fun lo st m x hr0 => by
    unfold wX11_absent_30 at hr0
    split at hr0
    · exact ⟨_, (qsub_n (qsub_n (qsub_n (qsub_n qsub_nil)))), (lX11_absent_30 _ _ _ _ _).trans hr0⟩
    · cases hr0) (sX11_absent_30 h hm hx (bX11_absent_34 h hm hx))
noncomputable def tX11_absent_0 (j10 : qT (Int32 × qM)) (j33 : qT (Int32 × qM)) (j30 : qT (Int32 × qM)) : qT (Int32 × qM) :=
  oLa 0 (oGf 0 7 74 (oLi 1 (oCi GX9_canBeAt 2 (oEq (j10) (oLa 0 (oGf 0 5 58 (oLi 2 (oCi GX4_isAsk 2 (oEq (j10) (oLa 0 (oGi 0 10 (oEq (j33) (oLa 0 (oGf 0 5 58 (oLi 2 (oCi GX4_isLaid 2 (oEq (j33) (oLa 0 (oGf 0 7 74 (oC (.int (1 : Int32)) (oLi 1 (oLi 2 (oLi 3 (oEq (oC (.int (0 : Int32)) (j30)) (oC (.int (1 : Int32)) (j30))))))))))))))))))))))))))
set_option maxRecDepth 20000 in
theorem sX11_absent_0 {C : qCx} {w : qWp} (h : qOk C w RX11 cX11_absent 4 3 155 155) (hm : qMt C (some .int)) (hx : qNx C) {j10 : qT (Int32 × qM)} {j33 : qT (Int32 × qM)} {j30 : qT (Int32 × qM)} (k10 : qSnd C w 4 155 (qQf C w 155 155 jI) qfin 155 22 j10) (k33 : qSnd C w 4 155 (qQf C w 155 155 jI) qfin 155 66 j33) (k30 : qSnd C w 4 155 (qQf C w 155 155 jI) qfin 155 59 j30) : qSnd C w 4 155 (qQf C w 155 155 jI) qfin 155 0 (tX11_absent_0 j10 j33 j30) :=
  cLa (pc := 0) h dX11_absent_0 rfl (gGf (pc := 1) h dX11_absent_1 ff_X11_69_0 (Nat.le_of_ble_eq_true rfl) (Nat.le_of_ble_eq_true rfl) rfl (cLi (pc := 4) h dX11_absent_4 rfl (kCi (pc := 5) h (kd_X11_280 h dX11_absent_5) spX9_canBeAt (by decide) (by decide) (by decide) (by decide) (jEq (pc := 8) h dX11_absent_8 rfl (k10) (cLa (pc := 11) h dX11_absent_11 rfl (gGf (pc := 12) h dX11_absent_12 ff_X11_53_0 (Nat.le_of_ble_eq_true rfl) (Nat.le_of_ble_eq_true rfl) rfl (cLi (pc := 15) h dX11_absent_15 rfl (kCi (pc := 16) h (kd_X11_196 h dX11_absent_16) spX4_isAsk (by decide) (by decide) (by decide) (by decide) (jNe (pc := 19) h dX11_absent_19 rfl (cLa (pc := 25) h dX11_absent_25 rfl (gGz (pc := 26) h dX11_absent_26 ff_X11_91_0 (Nat.le_of_ble_eq_true rfl) (Nat.le_of_ble_eq_true rfl) (jEq (pc := 29) h dX11_absent_29 rfl (k33) (cLa (pc := 32) h dX11_absent_32 rfl (gGf (pc := 33) h dX11_absent_33 ff_X11_53_0 (Nat.le_of_ble_eq_true rfl) (Nat.le_of_ble_eq_true rfl) rfl (cLi (pc := 36) h dX11_absent_36 rfl (kCi (pc := 37) h (kd_X11_199 h dX11_absent_37) spX4_isLaid (by decide) (by decide) (by decide) (by decide) (jEq (pc := 40) h dX11_absent_40 rfl (k33) (cLa (pc := 43) h dX11_absent_43 rfl (gGf (pc := 44) h dX11_absent_44 ff_X11_69_0 (Nat.le_of_ble_eq_true rfl) (Nat.le_of_ble_eq_true rfl) rfl (cC (pc := 47) h dX11_absent_47 rfl (cLi (pc := 48) h dX11_absent_48 rfl (cLi (pc := 49) h dX11_absent_49 rfl (cLi (pc := 50) h dX11_absent_50 rfl (jEq (pc := 51) h dX11_absent_51 rfl (cC (pc := 58) h dX11_absent_58 rfl (k30)) (cC (pc := 54) h dX11_absent_54 rfl (jGo (pc := 55) h dX11_absent_55 rfl (k30)))))))))))))))))) (k10))))))))))
set_option maxRecDepth 20000 in
theorem lX11_absent_0 (a1 : Int32) (a2 : Int32) (a3 : Int32) (m : qM) : tX11_absent_0 (wX11_absent_10 fX11_absent_10) (wX11_absent_33 fX11_absent_33) (wX11_absent_30 fX11_absent_30) [some (.ref 0), some (.int a1), some (.int a2), some (.int a3)] [] m = fX11_absent_0 a1 a2 a3 m := rfl
noncomputable def GX11_absent : qG Int32 := fun av m => match av with
  | [.ref 0, .int a1, .int a2, .int a3] => fX11_absent a1 a2 a3 m
  | _ => none
theorem spX11_absent : qSpI yX11_absent (.code yX11_absent cX11_absent 4 (some .int)) 3 qfin 155 155 1 GX11_absent := by
  intro av m x m' hG
  unfold GX11_absent at hG
  split at hG
  · rename_i a1 a2 a3
    rw [fX11_absent_d] at hG
    exact ⟨qmeet (J := jI) (r := (x, m')) (av := [.ref 0, .int a1, .int a2, .int a3]) (by decide +kernel) (Nat.le_of_ble_eq_true rfl) (fun C w h hm hx hn => sX11_absent_0 h hm hx (bX11_absent_10 h hm hx) (bX11_absent_33 h hm hx) (bX11_absent_30 h hm hx)) ((lX11_absent_0 _ _ _ _).trans hG) (Nat.le_of_ble_eq_true rfl), Or.inl ⟨0, _, 11, _, _, rfl, by decide, rfl, qCk_11, rfl⟩⟩
  · cases hG
theorem ml_X11_287 : Jvm.Cond.methodLink RX11 287 yX11_isMinute ∈ qTw := qm5 (List.mem_of_getElem? (i := 105) (by decide +kernel)) (by decide +kernel)
theorem kd_X11_287 {C : qCx} {w : qWp} {cc : ByteArray} {nL dp n0 n1 pc : Nat} (h : qOk C w RX11 cc nL dp n0 n1) (d : decode cc pc = .ok (.invokestatic 287, 3)) : qCallOk C w nL dp n0 n1 pc 1 0 yX11_isMinute (.code yX11_isMinute cX11_isMinute 1 (some .boolean)) := kindS h d ml_X11_287 im_X11_isMinute in_ParentEve co_X11_isMinute yk_X11_isMinute (by decide)
theorem dX11_comes_0 : decode cX11_comes 0 = .ok (.aload_n 0, 1) := by decide +kernel
theorem dX11_comes_1 : decode cX11_comes 1 = .ok (.getfield 69, 3) := by decide +kernel
theorem dX11_comes_4 : decode cX11_comes 4 = .ok (.iload_n 1, 1) := by decide +kernel
theorem dX11_comes_5 : decode cX11_comes 5 = .ok (.invokevirtual 280, 3) := by decide +kernel
theorem dX11_comes_8 : decode cX11_comes 8 = .ok (.ifCond .eq 17, 3) := by decide +kernel
theorem dX11_comes_11 : decode cX11_comes 11 = .ok (.iload_n 2, 1) := by decide +kernel
theorem dX11_comes_12 : decode cX11_comes 12 = .ok (.invokestatic 170, 3) := by decide +kernel
theorem dX11_comes_15 : decode cX11_comes 15 = .ok (.ifCond .eq 10, 3) := by decide +kernel
theorem dX11_comes_18 : decode cX11_comes 18 = .ok (.iload_n 3, 1) := by decide +kernel
theorem dX11_comes_19 : decode cX11_comes 19 = .ok (.invokestatic 287, 3) := by decide +kernel
theorem dX11_comes_22 : decode cX11_comes 22 = .ok (.ifCond .ne 6, 3) := by decide +kernel
theorem dX11_comes_25 : decode cX11_comes 25 = .ok (.bipush (-2), 2) := by decide +kernel
theorem dX11_comes_27 : decode cX11_comes 27 = .ok (.ireturn, 1) := by decide +kernel
theorem dX11_comes_28 : decode cX11_comes 28 = .ok (.aload_n 0, 1) := by decide +kernel
theorem dX11_comes_29 : decode cX11_comes 29 = .ok (.getfield 91, 3) := by decide +kernel
theorem dX11_comes_32 : decode cX11_comes 32 = .ok (.ifCond .eq 18, 3) := by decide +kernel
theorem dX11_comes_35 : decode cX11_comes 35 = .ok (.aload_n 0, 1) := by decide +kernel
theorem dX11_comes_36 : decode cX11_comes 36 = .ok (.getfield 69, 3) := by decide +kernel
theorem dX11_comes_39 : decode cX11_comes 39 = .ok (.iconst 2, 1) := by decide +kernel
theorem dX11_comes_40 : decode cX11_comes 40 = .ok (.iload_n 1, 1) := by decide +kernel
theorem dX11_comes_41 : decode cX11_comes 41 = .ok (.iload_n 2, 1) := by decide +kernel
theorem dX11_comes_42 : decode cX11_comes 42 = .ok (.iload_n 3, 1) := by decide +kernel
theorem dX11_comes_43 : decode cX11_comes 43 = .ok (.iconst 0, 1) := by decide +kernel
theorem dX11_comes_44 : decode cX11_comes 44 = .ok (.invokevirtual 283, 3) := by decide +kernel
theorem dX11_comes_47 : decode cX11_comes 47 = .ok (.goto 5, 3) := by decide +kernel
theorem dX11_comes_50 : decode cX11_comes 50 = .ok (.bipush (-4), 2) := by decide +kernel
theorem dX11_comes_52 : decode cX11_comes 52 = .ok (.ireturn, 1) := by decide +kernel
noncomputable def tX11_comes_11 : qT (Int32 × qM) :=
  oC (.int (-2 : Int32)) (eI)
noncomputable def wX11_comes_11 (k : qM → Option (Int32 × qM)) : qT (Int32 × qM) := fun lo st m => match lo, st with
  | [_, _, _, _], [] => k m
  | _, _ => none
set_option maxRecDepth 20000 in
theorem sX11_comes_11 {C : qCx} {w : qWp} (h : qOk C w RX11 cX11_comes 4 3 155 155) (hm : qMt C (some .int)) (hx : qNx C) : qSnd C w 4 155 (qQf C w 155 155 jI) qfin 155 25 (tX11_comes_11) :=
  cB (pc := 25) h dX11_comes_25 rfl (zI (pc := 27) h hm (Nat.le_refl _) dX11_comes_27)
set_option maxRecDepth 20000 in
theorem lX11_comes_11 (m : qM) : tX11_comes_11 [none, none, none, none] [] m = fX11_comes_11 m := rfl
theorem bX11_comes_11 {C : qCx} {w : qWp} (h : qOk C w RX11 cX11_comes 4 3 155 155) (hm : qMt C (some .int)) (hx : qNx C) : qSnd C w 4 155 (qQf C w 155 155 jI) qfin 155 25 (wX11_comes_11 fX11_comes_11) :=
  qSnd_of (fun lo st m x hr0 => by
    unfold wX11_comes_11 at hr0
    split at hr0
    · exact ⟨_, (qsub_n (qsub_n (qsub_n (qsub_n qsub_nil)))), (lX11_comes_11 _).trans hr0⟩
    · cases hr0) (sX11_comes_11 h hm hx)
noncomputable def tX11_comes_26 : qT (Int32 × qM) :=
  eI
noncomputable def wX11_comes_26 (k : Int32 → qM → Option (Int32 × qM)) : qT (Int32 × qM) := fun lo st m => match lo, st with
  | [_, _, _, _], [.int s0] => k s0 m
  | _, _ => none
set_option maxRecDepth 20000 in
theorem sX11_comes_26 {C : qCx} {w : qWp} (h : qOk C w RX11 cX11_comes 4 3 155 155) (hm : qMt C (some .int)) (hx : qNx C) : qSnd C w 4 155 (qQf C w 155 155 jI) qfin 155 52 (tX11_comes_26) :=
  zI (pc := 52) h hm (Nat.le_refl _) dX11_comes_52
set_option maxRecDepth 20000 in
theorem lX11_comes_26 (s0 : Int32) (m : qM) : tX11_comes_26 [none, none, none, none] [(.int s0)] m = fX11_comes_26 s0 m := rfl
theorem bX11_comes_26 {C : qCx} {w : qWp} (h : qOk C w RX11 cX11_comes 4 3 155 155) (hm : qMt C (some .int)) (hx : qNx C) : qSnd C w 4 155 (qQf C w 155 155 jI) qfin 155 52 (wX11_comes_26 fX11_comes_26) :=
  qSnd_of (fun lo st m x hr0 => by
    unfold wX11_comes_26 at hr0
    split at hr0
    · exact ⟨_, (qsub_n (qsub_n (qsub_n (qsub_n qsub_nil)))), (lX11_comes_26 _ _).trans hr0⟩
    · cases hr0) (sX11_comes_26 h hm hx)
noncomputable def tX11_comes_0 (j11 : qT (Int32 × qM)) (j26 : qT (Int32 × qM)) : qT (Int32 × qM) :=
  oLa 0 (oGf 0 7 74 (oLi 1 (oCi GX9_canBeAt 2 (oEq (j11) (oLi 2 (oCi GX11_isFamily 1 (oEq (j11) (oLi 3 (oCi GX11_isMinute 1 (oEq (j11) (oLa 0 (oGi 0 10 (oEq (oC (.int (-4 : Int32)) (j26)) (oLa 0 (oGf 0 7 74 (oC (.int (2 : Int32)) (oLi 1 (oLi 2 (oLi 3 (oC (.int (0 : Int32)) (oCi GX9_add 6 (j26))))))))))))))))))))))
set_option maxRecDepth 20000 in
theorem sX11_comes_0 {C : qCx} {w : qWp} (h : qOk C w RX11 cX11_comes 4 3 155 155) (hm : qMt C (some .int)) (hx : qNx C) {j11 : qT (Int32 × qM)} {j26 : qT (Int32 × qM)} (k11 : qSnd C w 4 155 (qQf C w 155 155 jI) qfin 155 25 j11) (k26 : qSnd C w 4 155 (qQf C w 155 155 jI) qfin 155 52 j26) : qSnd C w 4 155 (qQf C w 155 155 jI) qfin 155 0 (tX11_comes_0 j11 j26) :=
  cLa (pc := 0) h dX11_comes_0 rfl (gGf (pc := 1) h dX11_comes_1 ff_X11_69_0 (Nat.le_of_ble_eq_true rfl) (Nat.le_of_ble_eq_true rfl) rfl (cLi (pc := 4) h dX11_comes_4 rfl (kCi (pc := 5) h (kd_X11_280 h dX11_comes_5) spX9_canBeAt (by decide) (by decide) (by decide) (by decide) (jEq (pc := 8) h dX11_comes_8 rfl (k11) (cLi (pc := 11) h dX11_comes_11 rfl (kCi (pc := 12) h (kd_X11_170 h dX11_comes_12) spX11_isFamily (by decide) (by decide) (by decide) (by decide) (jEq (pc := 15) h dX11_comes_15 rfl (k11) (cLi (pc := 18) h dX11_comes_18 rfl (kCi (pc := 19) h (kd_X11_287 h dX11_comes_19) spX11_isMinute (by decide) (by decide) (by decide) (by decide) (jNe (pc := 22) h dX11_comes_22 rfl (cLa (pc := 28) h dX11_comes_28 rfl (gGz (pc := 29) h dX11_comes_29 ff_X11_91_0 (Nat.le_of_ble_eq_true rfl) (Nat.le_of_ble_eq_true rfl) (jEq (pc := 32) h dX11_comes_32 rfl (cB (pc := 50) h dX11_comes_50 rfl (k26)) (cLa (pc := 35) h dX11_comes_35 rfl (gGf (pc := 36) h dX11_comes_36 ff_X11_69_0 (Nat.le_of_ble_eq_true rfl) (Nat.le_of_ble_eq_true rfl) rfl (cC (pc := 39) h dX11_comes_39 rfl (cLi (pc := 40) h dX11_comes_40 rfl (cLi (pc := 41) h dX11_comes_41 rfl (cLi (pc := 42) h dX11_comes_42 rfl (cC (pc := 43) h dX11_comes_43 rfl (kCi (pc := 44) h (kd_X11_283 h dX11_comes_44) spX9_add (by decide) (by decide) (by decide) (by decide) (jGo (pc := 47) h dX11_comes_47 rfl (k26))))))))))))) (k11)))))))))))
set_option maxRecDepth 20000 in
theorem lX11_comes_0 (a1 : Int32) (a2 : Int32) (a3 : Int32) (m : qM) : tX11_comes_0 (wX11_comes_11 fX11_comes_11) (wX11_comes_26 fX11_comes_26) [some (.ref 0), some (.int a1), some (.int a2), some (.int a3)] [] m = fX11_comes_0 a1 a2 a3 m := rfl
noncomputable def GX11_comes : qG Int32 := fun av m => match av with
  | [.ref 0, .int a1, .int a2, .int a3] => fX11_comes a1 a2 a3 m
  | _ => none
theorem spX11_comes : qSpI yX11_comes (.code yX11_comes cX11_comes 4 (some .int)) 3 qfin 155 155 1 GX11_comes := by
  intro av m x m' hG
  unfold GX11_comes at hG
  split at hG
  · rename_i a1 a2 a3
    rw [fX11_comes_d] at hG
    exact ⟨qmeet (J := jI) (r := (x, m')) (av := [.ref 0, .int a1, .int a2, .int a3]) (by decide +kernel) (Nat.le_of_ble_eq_true rfl) (fun C w h hm hx hn => sX11_comes_0 h hm hx (bX11_comes_11 h hm hx) (bX11_comes_26 h hm hx)) ((lX11_comes_0 _ _ _ _).trans hG) (Nat.le_of_ble_eq_true rfl), Or.inl ⟨0, _, 11, _, _, rfl, by decide, rfl, qCk_11, rfl⟩⟩
  · cases hG
theorem dX11_away_0 : decode cX11_away 0 = .ok (.aload_n 0, 1) := by decide +kernel
theorem dX11_away_1 : decode cX11_away 1 = .ok (.getfield 69, 3) := by decide +kernel
theorem dX11_away_4 : decode cX11_away 4 = .ok (.iload_n 1, 1) := by decide +kernel
theorem dX11_away_5 : decode cX11_away 5 = .ok (.invokevirtual 280, 3) := by decide +kernel
theorem dX11_away_8 : decode cX11_away 8 = .ok (.ifCond .eq 22, 3) := by decide +kernel
theorem dX11_away_11 : decode cX11_away 11 = .ok (.iload_n 2, 1) := by decide +kernel
theorem dX11_away_12 : decode cX11_away 12 = .ok (.invokestatic 140, 3) := by decide +kernel
theorem dX11_away_15 : decode cX11_away 15 = .ok (.ifCond .eq 15, 3) := by decide +kernel
theorem dX11_away_18 : decode cX11_away 18 = .ok (.iload_n 3, 1) := by decide +kernel
theorem dX11_away_19 : decode cX11_away 19 = .ok (.iload 4, 2) := by decide +kernel
theorem dX11_away_21 : decode cX11_away 21 = .ok (.sipush 800, 3) := by decide +kernel
theorem dX11_away_24 : decode cX11_away 24 = .ok (.invokestatic 160, 3) := by decide +kernel
theorem dX11_away_27 : decode cX11_away 27 = .ok (.ifCond .ne 6, 3) := by decide +kernel
theorem dX11_away_30 : decode cX11_away 30 = .ok (.bipush (-2), 2) := by decide +kernel
theorem dX11_away_32 : decode cX11_away 32 = .ok (.ireturn, 1) := by decide +kernel
theorem dX11_away_33 : decode cX11_away 33 = .ok (.aload_n 0, 1) := by decide +kernel
theorem dX11_away_34 : decode cX11_away 34 = .ok (.getfield 91, 3) := by decide +kernel
theorem dX11_away_37 : decode cX11_away 37 = .ok (.ifCond .eq 19, 3) := by decide +kernel
theorem dX11_away_40 : decode cX11_away 40 = .ok (.aload_n 0, 1) := by decide +kernel
theorem dX11_away_41 : decode cX11_away 41 = .ok (.getfield 69, 3) := by decide +kernel
theorem dX11_away_44 : decode cX11_away 44 = .ok (.iconst 3, 1) := by decide +kernel
theorem dX11_away_45 : decode cX11_away 45 = .ok (.iload_n 1, 1) := by decide +kernel
theorem dX11_away_46 : decode cX11_away 46 = .ok (.iload_n 2, 1) := by decide +kernel
theorem dX11_away_47 : decode cX11_away 47 = .ok (.iload_n 3, 1) := by decide +kernel
theorem dX11_away_48 : decode cX11_away 48 = .ok (.iload 4, 2) := by decide +kernel
theorem dX11_away_50 : decode cX11_away 50 = .ok (.invokevirtual 283, 3) := by decide +kernel
theorem dX11_away_53 : decode cX11_away 53 = .ok (.goto 5, 3) := by decide +kernel
theorem dX11_away_56 : decode cX11_away 56 = .ok (.bipush (-4), 2) := by decide +kernel
theorem dX11_away_58 : decode cX11_away 58 = .ok (.ireturn, 1) := by decide +kernel
noncomputable def tX11_away_13 : qT (Int32 × qM) :=
  oC (.int (-2 : Int32)) (eI)
noncomputable def wX11_away_13 (k : qM → Option (Int32 × qM)) : qT (Int32 × qM) := fun lo st m => match lo, st with
  | [_, _, _, _, _], [] => k m
  | _, _ => none
set_option maxRecDepth 20000 in
theorem sX11_away_13 {C : qCx} {w : qWp} (h : qOk C w RX11 cX11_away 5 3 155 155) (hm : qMt C (some .int)) (hx : qNx C) : qSnd C w 5 155 (qQf C w 155 155 jI) qfin 155 30 (tX11_away_13) :=
  cB (pc := 30) h dX11_away_30 rfl (zI (pc := 32) h hm (Nat.le_refl _) dX11_away_32)
set_option maxRecDepth 20000 in
theorem lX11_away_13 (m : qM) : tX11_away_13 [none, none, none, none, none] [] m = fX11_away_13 m := rfl
theorem bX11_away_13 {C : qCx} {w : qWp} (h : qOk C w RX11 cX11_away 5 3 155 155) (hm : qMt C (some .int)) (hx : qNx C) : qSnd C w 5 155 (qQf C w 155 155 jI) qfin 155 30 (wX11_away_13 fX11_away_13) :=
  qSnd_of (fun lo st m x hr0 => by
    unfold wX11_away_13 at hr0
    split at hr0
    · exact ⟨_, (qsub_n (qsub_n (qsub_n (qsub_n (qsub_n qsub_nil))))), (lX11_away_13 _).trans hr0⟩
    · cases hr0) (sX11_away_13 h hm hx)
noncomputable def tX11_away_28 : qT (Int32 × qM) :=
  eI
noncomputable def wX11_away_28 (k : Int32 → qM → Option (Int32 × qM)) : qT (Int32 × qM) := fun lo st m => match lo, st with
  | [_, _, _, _, _], [.int s0] => k s0 m
  | _, _ => none
set_option maxRecDepth 20000 in
theorem sX11_away_28 {C : qCx} {w : qWp} (h : qOk C w RX11 cX11_away 5 3 155 155) (hm : qMt C (some .int)) (hx : qNx C) : qSnd C w 5 155 (qQf C w 155 155 jI) qfin 155 58 (tX11_away_28) :=
  zI (pc := 58) h hm (Nat.le_refl _) dX11_away_58
set_option maxRecDepth 20000 in
theorem lX11_away_28 (s0 : Int32) (m : qM) : tX11_away_28 [none, none, none, none, none] [(.int s0)] m = fX11_away_28 s0 m := rfl
theorem bX11_away_28 {C : qCx} {w : qWp} (h : qOk C w RX11 cX11_away 5 3 155 155) (hm : qMt C (some .int)) (hx : qNx C) : qSnd C w 5 155 (qQf C w 155 155 jI) qfin 155 58 (wX11_away_28 fX11_away_28) :=
  qSnd_of (fun lo st m x hr0 => by
    unfold wX11_away_28 at hr0
    split at hr0
    · exact ⟨_, (qsub_n (qsub_n (qsub_n (qsub_n (qsub_n qsub_nil))))), (lX11_away_28 _ _).trans hr0⟩
    · cases hr0) (sX11_away_28 h hm hx)
noncomputable def tX11_away_0 (j13 : qT (Int32 × qM)) (j28 : qT (Int32 × qM)) : qT (Int32 × qM) :=
  oLa 0 (oGf 0 7 74 (oLi 1 (oCi GX9_canBeAt 2 (oEq (j13) (oLi 2 (oCi GX11_isTeacher 1 (oEq (j13) (oLi 3 (oLi 4 (oC (.int (800 : Int32)) (oCi GX11_isSpan 3 (oEq (j13) (oLa 0 (oGi 0 10 (oEq (oC (.int (-4 : Int32)) (j28)) (oLa 0 (oGf 0 7 74 (oC (.int (3 : Int32)) (oLi 1 (oLi 2 (oLi 3 (oLi 4 (oCi GX9_add 6 (j28))))))))))))))))))))))))
set_option maxRecDepth 20000 in
theorem sX11_away_0 {C : qCx} {w : qWp} (h : qOk C w RX11 cX11_away 5 3 155 155) (hm : qMt C (some .int)) (hx : qNx C) {j13 : qT (Int32 × qM)} {j28 : qT (Int32 × qM)} (k13 : qSnd C w 5 155 (qQf C w 155 155 jI) qfin 155 30 j13) (k28 : qSnd C w 5 155 (qQf C w 155 155 jI) qfin 155 58 j28) : qSnd C w 5 155 (qQf C w 155 155 jI) qfin 155 0 (tX11_away_0 j13 j28) :=
  cLa (pc := 0) h dX11_away_0 rfl (gGf (pc := 1) h dX11_away_1 ff_X11_69_0 (Nat.le_of_ble_eq_true rfl) (Nat.le_of_ble_eq_true rfl) rfl (cLi (pc := 4) h dX11_away_4 rfl (kCi (pc := 5) h (kd_X11_280 h dX11_away_5) spX9_canBeAt (by decide) (by decide) (by decide) (by decide) (jEq (pc := 8) h dX11_away_8 rfl (k13) (cLi (pc := 11) h dX11_away_11 rfl (kCi (pc := 12) h (kd_X11_140 h dX11_away_12) spX11_isTeacher (by decide) (by decide) (by decide) (by decide) (jEq (pc := 15) h dX11_away_15 rfl (k13) (cLi (pc := 18) h dX11_away_18 rfl (cLI (pc := 19) h dX11_away_19 (cS (pc := 21) h dX11_away_21 rfl (kCi (pc := 24) h (kd_X11_160 h dX11_away_24) spX11_isSpan (by decide) (by decide) (by decide) (by decide) (jNe (pc := 27) h dX11_away_27 rfl (cLa (pc := 33) h dX11_away_33 rfl (gGz (pc := 34) h dX11_away_34 ff_X11_91_0 (Nat.le_of_ble_eq_true rfl) (Nat.le_of_ble_eq_true rfl) (jEq (pc := 37) h dX11_away_37 rfl (cB (pc := 56) h dX11_away_56 rfl (k28)) (cLa (pc := 40) h dX11_away_40 rfl (gGf (pc := 41) h dX11_away_41 ff_X11_69_0 (Nat.le_of_ble_eq_true rfl) (Nat.le_of_ble_eq_true rfl) rfl (cC (pc := 44) h dX11_away_44 rfl (cLi (pc := 45) h dX11_away_45 rfl (cLi (pc := 46) h dX11_away_46 rfl (cLi (pc := 47) h dX11_away_47 rfl (cLI (pc := 48) h dX11_away_48 (kCi (pc := 50) h (kd_X11_283 h dX11_away_50) spX9_add (by decide) (by decide) (by decide) (by decide) (jGo (pc := 53) h dX11_away_53 rfl (k28))))))))))))) (k13)))))))))))))
set_option maxRecDepth 20000 in
theorem lX11_away_0 (a1 : Int32) (a2 : Int32) (a3 : Int32) (a4 : Int32) (m : qM) : tX11_away_0 (wX11_away_13 fX11_away_13) (wX11_away_28 fX11_away_28) [some (.ref 0), some (.int a1), some (.int a2), some (.int a3), some (.int a4)] [] m = fX11_away_0 a1 a2 a3 a4 m := rfl
noncomputable def GX11_away : qG Int32 := fun av m => match av with
  | [.ref 0, .int a1, .int a2, .int a3, .int a4] => fX11_away a1 a2 a3 a4 m
  | _ => none
theorem spX11_away : qSpI yX11_away (.code yX11_away cX11_away 5 (some .int)) 3 qfin 155 155 1 GX11_away := by
  intro av m x m' hG
  unfold GX11_away at hG
  split at hG
  · rename_i a1 a2 a3 a4
    rw [fX11_away_d] at hG
    exact ⟨qmeet (J := jI) (r := (x, m')) (av := [.ref 0, .int a1, .int a2, .int a3, .int a4]) (by decide +kernel) (Nat.le_of_ble_eq_true rfl) (fun C w h hm hx hn => sX11_away_0 h hm hx (bX11_away_13 h hm hx) (bX11_away_28 h hm hx)) ((lX11_away_0 _ _ _ _ _).trans hG) (Nat.le_of_ble_eq_true rfl), Or.inl ⟨0, _, 11, _, _, rfl, by decide, rfl, qCk_11, rfl⟩⟩
  · cases hG

