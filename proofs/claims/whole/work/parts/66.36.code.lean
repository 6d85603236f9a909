/-! methods (by program): X13_lay_, X13_lift, X13_firstSlot, X13_layAll, X13_waitsOf, X13_valueOf, X13_value, X13_valueNow, X13_isMore, X13_keepValue -/
theorem dX13_lay__0 : decode cX13_lay_ 0 = .ok (.aload_n 0, 1) := by decide +kernel
theorem dX13_lay__1 : decode cX13_lay_ 1 = .ok (.iload_n 1, 1) := by decide +kernel
theorem dX13_lay__2 : decode cX13_lay_ 2 = .ok (.invokevirtual 372, 3) := by decide +kernel
theorem dX13_lay__5 : decode cX13_lay_ 5 = .ok (.ifCond .eq 10, 3) := by decide +kernel
theorem dX13_lay__8 : decode cX13_lay_ 8 = .ok (.iload_n 2, 1) := by decide +kernel
theorem dX13_lay__9 : decode cX13_lay_ 9 = .ok (.invokestatic 351, 3) := by decide +kernel
theorem dX13_lay__12 : decode cX13_lay_ 12 = .ok (.ifCond .ne 6, 3) := by decide +kernel
theorem dX13_lay__15 : decode cX13_lay_ 15 = .ok (.bipush (-2), 2) := by decide +kernel
theorem dX13_lay__17 : decode cX13_lay_ 17 = .ok (.ireturn, 1) := by decide +kernel
theorem dX13_lay__18 : decode cX13_lay_ 18 = .ok (.aload_n 0, 1) := by decide +kernel
theorem dX13_lay__19 : decode cX13_lay_ 19 = .ok (.getfield 221, 3) := by decide +kernel
theorem dX13_lay__22 : decode cX13_lay_ 22 = .ok (.iload_n 1, 1) := by decide +kernel
theorem dX13_lay__23 : decode cX13_lay_ 23 = .ok (.iaload, 1) := by decide +kernel
theorem dX13_lay__24 : decode cX13_lay_ 24 = .ok (.iconst (-1), 1) := by decide +kernel
theorem dX13_lay__25 : decode cX13_lay_ 25 = .ok (.if_icmp .ne 10, 3) := by decide +kernel
theorem dX13_lay__28 : decode cX13_lay_ 28 = .ok (.aload_n 0, 1) := by decide +kernel
theorem dX13_lay__29 : decode cX13_lay_ 29 = .ok (.getfield 316, 3) := by decide +kernel
theorem dX13_lay__32 : decode cX13_lay_ 32 = .ok (.ifCond .eq 6, 3) := by decide +kernel
theorem dX13_lay__35 : decode cX13_lay_ 35 = .ok (.bipush (-4), 2) := by decide +kernel
theorem dX13_lay__37 : decode cX13_lay_ 37 = .ok (.ireturn, 1) := by decide +kernel
theorem dX13_lay__38 : decode cX13_lay_ 38 = .ok (.aload_n 0, 1) := by decide +kernel
theorem dX13_lay__39 : decode cX13_lay_ 39 = .ok (.iload_n 1, 1) := by decide +kernel
theorem dX13_lay__40 : decode cX13_lay_ 40 = .ok (.iload_n 2, 1) := by decide +kernel
theorem dX13_lay__41 : decode cX13_lay_ 41 = .ok (.invokevirtual 375, 3) := by decide +kernel
theorem dX13_lay__44 : decode cX13_lay_ 44 = .ok (.ifCond .ne 5, 3) := by decide +kernel
theorem dX13_lay__47 : decode cX13_lay_ 47 = .ok (.iconst 0, 1) := by decide +kernel
theorem dX13_lay__48 : decode cX13_lay_ 48 = .ok (.ireturn, 1) := by decide +kernel
theorem dX13_lay__49 : decode cX13_lay_ 49 = .ok (.aload_n 0, 1) := by decide +kernel
theorem dX13_lay__50 : decode cX13_lay_ 50 = .ok (.getfield 221, 3) := by decide +kernel
theorem dX13_lay__53 : decode cX13_lay_ 53 = .ok (.iload_n 1, 1) := by decide +kernel
theorem dX13_lay__54 : decode cX13_lay_ 54 = .ok (.iload_n 2, 1) := by decide +kernel
theorem dX13_lay__55 : decode cX13_lay_ 55 = .ok (.iastore, 1) := by decide +kernel
theorem dX13_lay__56 : decode cX13_lay_ 56 = .ok (.iconst 1, 1) := by decide +kernel
theorem dX13_lay__57 : decode cX13_lay_ 57 = .ok (.ireturn, 1) := by decide +kernel
noncomputable def tX13_lay__7 : qT (Int32 × qM) :=
  oC (.int (-2 : Int32)) (eI)
noncomputable def wX13_lay__7 (k : qM → Option (Int32 × qM)) : qT (Int32 × qM) := fun lo st m => match lo, st with
  | [_, _, _], [] => k m
  | _, _ => none
set_option maxRecDepth 20000 in
theorem sX13_lay__7 {C : qCx} {w : qWp} (h : qOk C w RX13 cX13_lay_ 3 3 155 155) (hm : qMt C (some .int)) (hx : qNx C) : qSnd C w 3 155 (qQf C w 155 155 jI) qfin 155 15 (tX13_lay__7) :=
  cB (pc := 15) h dX13_lay__15 rfl (zI (pc := 17) h hm (Nat.le_refl _) dX13_lay__17)
set_option maxRecDepth 20000 in
theorem lX13_lay__7 (m : qM) : tX13_lay__7 [none, none, none] [] m = fX13_lay__7 m := rfl
theorem bX13_lay__7 {C : qCx} {w : qWp} (h : qOk C w RX13 cX13_lay_ 3 3 155 155) (hm : qMt C (some .int)) (hx : qNx C) : qSnd C w 3 155 (qQf C w 155 155 jI) qfin 155 15 (wX13_lay__7 fX13_lay__7) :=
  qSnd_of (fun lo st m x hr0 => by
    unfold wX13_lay__7 at hr0
    split at hr0
    · exact ⟨_, (qsub_n (qsub_n (qsub_n qsub_nil))), (lX13_lay__7 _).trans hr0⟩
    · cases hr0) (sX13_lay__7 h hm hx)
noncomputable def tX13_lay__18 : qT (Int32 × qM) :=
  oC (.int (-4 : Int32)) (eI)
noncomputable def wX13_lay__18 (k : qM → Option (Int32 × qM)) : qT (Int32 × qM) := fun lo st m => match lo, st with
  | [_, _, _], [] => k m
  | _, _ => none
set_option maxRecDepth 20000 in
theorem sX13_lay__18 {C : qCx} {w : qWp} (h : qOk C w RX13 cX13_lay_ 3 3 155 155) (hm : qMt C (some .int)) (hx : qNx C) : qSnd C w 3 155 (qQf C w 155 155 jI) qfin 155 35 (tX13_lay__18) :=
  cB (pc := 35) h dX13_lay__35 rfl (zI (pc := 37) h hm (Nat.le_refl _) dX13_lay__37)
set_option maxRecDepth 20000 in
theorem lX13_lay__18 (m : qM) : tX13_lay__18 [none, none, none] [] m = fX13_lay__18 m := rfl
theorem bX13_lay__18 {C : qCx} {w : qWp} (h : qOk C w RX13 cX13_lay_ 3 3 155 155) (hm : qMt C (some .int)) (hx : qNx C) : qSnd C w 3 155 (qQf C w 155 155 jI) qfin 155 35 (wX13_lay__18 fX13_lay__18) :=
  qSnd_of (fun lo st m x hr0 => by
    unfold wX13_lay__18 at hr0
    split at hr0
    · exact ⟨_, (qsub_n (qsub_n (qsub_n qsub_nil))), (lX13_lay__18 _).trans hr0⟩
    · cases hr0) (sX13_lay__18 h hm hx)
noncomputable def tX13_lay__0 (j7 : qT (Int32 × qM)) (j18 : qT (Int32 × qM)) : qT (Int32 × qM) :=
  oLa 0 (oLi 1 (oCi GX13_isAsk 2 (oEq (j7) (oLi 2 (oCi GX13_isSlot 1 (oEq (j7) (oLa 0 (oGf 98 36 125 (oLi 1 (oAi 125 40 (oC (.int (-1 : Int32)) (oCEq (oLa 0 (oGi 98 33 (oEq (oLa 0 (oLi 1 (oLi 2 (oCi GX13_mayBe 3 (oEq (oC (.int (0 : Int32)) (eI)) (oLa 0 (oGf 98 36 125 (oLi 1 (oLi 2 (oWi 125 40 (oC (.int (1 : Int32)) (eI)))))))))))) (j18)))) (j18)))))))))))))
set_option maxRecDepth 20000 in
theorem sX13_lay__0 {C : qCx} {w : qWp} (h : qOk C w RX13 cX13_lay_ 3 3 155 155) (hm : qMt C (some .int)) (hx : qNx C) {j7 : qT (Int32 × qM)} {j18 : qT (Int32 × qM)} (k7 : qSnd C w 3 155 (qQf C w 155 155 jI) qfin 155 15 j7) (k18 : qSnd C w 3 155 (qQf C w 155 155 jI) qfin 155 35 j18) : qSnd C w 3 155 (qQf C w 155 155 jI) qfin 155 0 (tX13_lay__0 j7 j18) :=
  cLa (pc := 0) h dX13_lay__0 rfl (cLi (pc := 1) h dX13_lay__1 rfl (kCi (pc := 2) h (kd_X13_372 h dX13_lay__2) spX13_isAsk (by decide) (by decide) (by decide) (by decide) (jEq (pc := 5) h dX13_lay__5 rfl (k7) (cLi (pc := 8) h dX13_lay__8 rfl (kCi (pc := 9) h (kd_X13_351 h dX13_lay__9) spX13_isSlot (by decide) (by decide) (by decide) (by decide) (jNe (pc := 12) h dX13_lay__12 rfl (cLa (pc := 18) h dX13_lay__18 rfl (gGf (pc := 19) h dX13_lay__19 ff_X13_221_98 (Nat.le_of_ble_eq_true rfl) (Nat.le_of_ble_eq_true rfl) rfl (cLi (pc := 22) h dX13_lay__22 rfl (rAi (pc := 23) h dX13_lay__23 rfl (Nat.le_of_ble_eq_true rfl) (Nat.le_of_ble_eq_true rfl) (cC (pc := 24) h dX13_lay__24 rfl (jCNe (pc := 25) h dX13_lay__25 rfl (k18) (cLa (pc := 28) h dX13_lay__28 rfl (gGz (pc := 29) h dX13_lay__29 ff_X13_316_98 (Nat.le_of_ble_eq_true rfl) (Nat.le_of_ble_eq_true rfl) (jEq (pc := 32) h dX13_lay__32 rfl (cLa (pc := 38) h dX13_lay__38 rfl (cLi (pc := 39) h dX13_lay__39 rfl (cLi (pc := 40) h dX13_lay__40 rfl (kCi (pc := 41) h (kd_X13_375 h dX13_lay__41) spX13_mayBe (by decide) (by decide) (by decide) (by decide) (jNe (pc := 44) h dX13_lay__44 rfl (cLa (pc := 49) h dX13_lay__49 rfl (gGf (pc := 50) h dX13_lay__50 ff_X13_221_98 (Nat.le_of_ble_eq_true rfl) (Nat.le_of_ble_eq_true rfl) rfl (cLi (pc := 53) h dX13_lay__53 rfl (cLi (pc := 54) h dX13_lay__54 rfl (rWi (pc := 55) h dX13_lay__55 rfl (Nat.le_of_ble_eq_true rfl) (Nat.le_of_ble_eq_true rfl) (cC (pc := 56) h dX13_lay__56 rfl (zI (pc := 57) h hm (Nat.le_refl _) dX13_lay__57))))))) (cC (pc := 47) h dX13_lay__47 rfl (zI (pc := 48) h hm (Nat.le_refl _) dX13_lay__48))))))) (k18)))))))))) (k7)))))))
set_option maxRecDepth 20000 in
theorem lX13_lay__0 (a1 : Int32) (a2 : Int32) (m : qM) : tX13_lay__0 (wX13_lay__7 fX13_lay__7) (wX13_lay__18 fX13_lay__18) [some (.ref 98), some (.int a1), some (.int a2)] [] m = fX13_lay__0 a1 a2 m := rfl
noncomputable def GX13_lay_ : qG Int32 := fun av m => match av with
  | [.ref 98, .int a1, .int a2] => fX13_lay_ a1 a2 m
  | _ => none
theorem spX13_lay_ : qSpI yX13_lay_ (.code yX13_lay_ cX13_lay_ 3 (some .int)) 3 qfin 155 155 1 GX13_lay_ := by
  intro av m x m' hG
  unfold GX13_lay_ at hG
  split at hG
  · rename_i a1 a2
    rw [fX13_lay__d] at hG
    exact ⟨qmeet (J := jI) (r := (x, m')) (av := [.ref 98, .int a1, .int a2]) (by decide +kernel) (Nat.le_of_ble_eq_true rfl) (fun C w h hm hx hn => sX13_lay__0 h hm hx (bX13_lay__7 h hm hx) (bX13_lay__18 h hm hx)) ((lX13_lay__0 _ _ _).trans hG) (Nat.le_of_ble_eq_true rfl), Or.inl ⟨98, _, 13, _, _, rfl, by decide, rfl, qCk_13, rfl⟩⟩
  · cases hG
theorem dX13_lift_0 : decode cX13_lift 0 = .ok (.aload_n 0, 1) := by decide +kernel
theorem dX13_lift_1 : decode cX13_lift 1 = .ok (.iload_n 1, 1) := by decide +kernel
theorem dX13_lift_2 : decode cX13_lift 2 = .ok (.invokevirtual 372, 3) := by decide +kernel
theorem dX13_lift_5 : decode cX13_lift 5 = .ok (.ifCond .ne 6, 3) := by decide +kernel
theorem dX13_lift_8 : decode cX13_lift 8 = .ok (.bipush (-2), 2) := by decide +kernel
theorem dX13_lift_10 : decode cX13_lift 10 = .ok (.ireturn, 1) := by decide +kernel
theorem dX13_lift_11 : decode cX13_lift 11 = .ok (.aload_n 0, 1) := by decide +kernel
theorem dX13_lift_12 : decode cX13_lift 12 = .ok (.getfield 221, 3) := by decide +kernel
theorem dX13_lift_15 : decode cX13_lift 15 = .ok (.iload_n 1, 1) := by decide +kernel
theorem dX13_lift_16 : decode cX13_lift 16 = .ok (.iaload, 1) := by decide +kernel
theorem dX13_lift_17 : decode cX13_lift 17 = .ok (.iconst (-1), 1) := by decide +kernel
theorem dX13_lift_18 : decode cX13_lift 18 = .ok (.if_icmp .eq 10, 3) := by decide +kernel
theorem dX13_lift_21 : decode cX13_lift 21 = .ok (.aload_n 0, 1) := by decide +kernel
theorem dX13_lift_22 : decode cX13_lift 22 = .ok (.getfield 316, 3) := by decide +kernel
theorem dX13_lift_25 : decode cX13_lift 25 = .ok (.ifCond .eq 6, 3) := by decide +kernel
theorem dX13_lift_28 : decode cX13_lift 28 = .ok (.bipush (-4), 2) := by decide +kernel
theorem dX13_lift_30 : decode cX13_lift 30 = .ok (.ireturn, 1) := by decide +kernel
theorem dX13_lift_31 : decode cX13_lift 31 = .ok (.aload_n 0, 1) := by decide +kernel
theorem dX13_lift_32 : decode cX13_lift 32 = .ok (.getfield 221, 3) := by decide +kernel
theorem dX13_lift_35 : decode cX13_lift 35 = .ok (.iload_n 1, 1) := by decide +kernel
theorem dX13_lift_36 : decode cX13_lift 36 = .ok (.iaload, 1) := by decide +kernel
theorem dX13_lift_37 : decode cX13_lift 37 = .ok (.istore_n 2, 1) := by decide +kernel
theorem dX13_lift_38 : decode cX13_lift 38 = .ok (.aload_n 0, 1) := by decide +kernel
theorem dX13_lift_39 : decode cX13_lift 39 = .ok (.getfield 221, 3) := by decide +kernel
theorem dX13_lift_42 : decode cX13_lift 42 = .ok (.iload_n 1, 1) := by decide +kernel
theorem dX13_lift_43 : decode cX13_lift 43 = .ok (.iconst (-1), 1) := by decide +kernel
theorem dX13_lift_44 : decode cX13_lift 44 = .ok (.iastore, 1) := by decide +kernel
theorem dX13_lift_45 : decode cX13_lift 45 = .ok (.iload_n 2, 1) := by decide +kernel
theorem dX13_lift_46 : decode cX13_lift 46 = .ok (.ireturn, 1) := by decide +kernel
noncomputable def tX13_lift_15 : qT (Int32 × qM) :=
  oC (.int (-4 : Int32)) (eI)
noncomputable def wX13_lift_15 (k : qM → Option (Int32 × qM)) : qT (Int32 × qM) := fun lo st m => match lo, st with
  | [_, _, _], [] => k m
  | _, _ => none
set_option maxRecDepth 20000 in
theorem sX13_lift_15 {C : qCx} {w : qWp} (h : qOk C w RX13 cX13_lift 3 2 155 155) (hm : qMt C (some .int)) (hx : qNx C) : qSnd C w 3 155 (qQf C w 155 155 jI) qfin 155 28 (tX13_lift_15) :=
  cB (pc := 28) h dX13_lift_28 rfl (zI (pc := 30) h hm (Nat.le_refl _) dX13_lift_30)
set_option maxRecDepth 20000 in
theorem lX13_lift_15 (m : qM) : tX13_lift_15 [none, none, none] [] m = fX13_lift_15 m := rfl
theorem bX13_lift_15 {C : qCx} {w : qWp} (h : qOk C w RX13 cX13_lift 3 2 155 155) (hm : qMt C (some .int)) (hx : qNx C) : qSnd C w 3 155 (qQf C w 155 155 jI) qfin 155 28 (wX13_lift_15 fX13_lift_15) :=
  qSnd_of (fun lo st m x hr0 => by
    unfold wX13_lift_15 at hr0
    split at hr0
    · exact ⟨_, (qsub_n (qsub_n (qsub_n qsub_nil))), (lX13_lift_15 _).trans hr0⟩
    · cases hr0) (sX13_lift_15 h hm hx)
noncomputable def tX13_lift_0 (j15 : qT (Int32 × qM)) : qT (Int32 × qM) :=
  oLa 0 (oLi 1 (oCi GX13_isAsk 2 (oEq (oC (.int (-2 : Int32)) (eI)) (oLa 0 (oGf 98 36 125 (oLi 1 (oAi 125 40 (oC (.int (-1 : Int32)) (oCEq (j15) (oLa 0 (oGi 98 33 (oEq (oLa 0 (oGf 98 36 125 (oLi 1 (oAi 125 40 (oSi 2 (oLa 0 (oGf 98 36 125 (oLi 1 (oC (.int (-1 : Int32)) (oWi 125 40 (oLi 2 (eI)))))))))))) (j15)))))))))))))
set_option maxRecDepth 20000 in
theorem sX13_lift_0 {C : qCx} {w : qWp} (h : qOk C w RX13 cX13_lift 3 2 155 155) (hm : qMt C (some .int)) (hx : qNx C) {j15 : qT (Int32 × qM)} (k15 : qSnd C w 3 155 (qQf C w 155 155 jI) qfin 155 28 j15) : qSnd C w 3 155 (qQf C w 155 155 jI) qfin 155 0 (tX13_lift_0 j15) :=
  cLa (pc := 0) h dX13_lift_0 rfl (cLi (pc := 1) h dX13_lift_1 rfl (kCi (pc := 2) h (kd_X13_372 h dX13_lift_2) spX13_isAsk (by decide) (by decide) (by decide) (by decide) (jNe (pc := 5) h dX13_lift_5 rfl (cLa (pc := 11) h dX13_lift_11 rfl (gGf (pc := 12) h dX13_lift_12 ff_X13_221_98 (Nat.le_of_ble_eq_true rfl) (Nat.le_of_ble_eq_true rfl) rfl (cLi (pc := 15) h dX13_lift_15 rfl (rAi (pc := 16) h dX13_lift_16 rfl (Nat.le_of_ble_eq_true rfl) (Nat.le_of_ble_eq_true rfl) (cC (pc := 17) h dX13_lift_17 rfl (jCEq (pc := 18) h dX13_lift_18 rfl (k15) (cLa (pc := 21) h dX13_lift_21 rfl (gGz (pc := 22) h dX13_lift_22 ff_X13_316_98 (Nat.le_of_ble_eq_true rfl) (Nat.le_of_ble_eq_true rfl) (jEq (pc := 25) h dX13_lift_25 rfl (cLa (pc := 31) h dX13_lift_31 rfl (gGf (pc := 32) h dX13_lift_32 ff_X13_221_98 (Nat.le_of_ble_eq_true rfl) (Nat.le_of_ble_eq_true rfl) rfl (cLi (pc := 35) h dX13_lift_35 rfl (rAi (pc := 36) h dX13_lift_36 rfl (Nat.le_of_ble_eq_true rfl) (Nat.le_of_ble_eq_true rfl) (cSi (pc := 37) h dX13_lift_37 rfl (cLa (pc := 38) h dX13_lift_38 rfl (gGf (pc := 39) h dX13_lift_39 ff_X13_221_98 (Nat.le_of_ble_eq_true rfl) (Nat.le_of_ble_eq_true rfl) rfl (cLi (pc := 42) h dX13_lift_42 rfl (cC (pc := 43) h dX13_lift_43 rfl (rWi (pc := 44) h dX13_lift_44 rfl (Nat.le_of_ble_eq_true rfl) (Nat.le_of_ble_eq_true rfl) (cLi (pc := 45) h dX13_lift_45 rfl (zI (pc := 46) h hm (Nat.le_refl _) dX13_lift_46)))))))))))) (k15)))))))))) (cB (pc := 8) h dX13_lift_8 rfl (zI (pc := 10) h hm (Nat.le_refl _) dX13_lift_10)))))
set_option maxRecDepth 20000 in
theorem lX13_lift_0 (a1 : Int32) (m : qM) : tX13_lift_0 (wX13_lift_15 fX13_lift_15) [some (.ref 98), some (.int a1), none] [] m = fX13_lift_0 a1 m := rfl
noncomputable def GX13_lift : qG Int32 := fun av m => match av with
  | [.ref 98, .int a1] => fX13_lift a1 m
  | _ => none
theorem spX13_lift : qSpI yX13_lift (.code yX13_lift cX13_lift 3 (some .int)) 2 qfin 155 155 1 GX13_lift := by
  intro av m x m' hG
  unfold GX13_lift at hG
  split at hG
  · rename_i a1
    rw [fX13_lift_d] at hG
    exact ⟨qmeet (J := jI) (r := (x, m')) (av := [.ref 98, .int a1]) (by decide +kernel) (Nat.le_of_ble_eq_true rfl) (fun C w h hm hx hn => sX13_lift_0 h hm hx (bX13_lift_15 h hm hx)) ((lX13_lift_0 _ _).trans hG) (Nat.le_of_ble_eq_true rfl), Or.inl ⟨98, _, 13, _, _, rfl, by decide, rfl, qCk_13, rfl⟩⟩
  · cases hG
theorem dX13_firstSlot_0 : decode cX13_firstSlot 0 = .ok (.iload_n 2, 1) := by decide +kernel
theorem dX13_firstSlot_1 : decode cX13_firstSlot 1 = .ok (.istore 4, 2) := by decide +kernel
theorem dX13_firstSlot_3 : decode cX13_firstSlot 3 = .ok (.iload 4, 2) := by decide +kernel
theorem dX13_firstSlot_5 : decode cX13_firstSlot 5 = .ok (.iload_n 3, 1) := by decide +kernel
theorem dX13_firstSlot_6 : decode cX13_firstSlot 6 = .ok (.if_icmp .gt 22, 3) := by decide +kernel
theorem dX13_firstSlot_9 : decode cX13_firstSlot 9 = .ok (.aload_n 0, 1) := by decide +kernel
theorem dX13_firstSlot_10 : decode cX13_firstSlot 10 = .ok (.iload_n 1, 1) := by decide +kernel
theorem dX13_firstSlot_11 : decode cX13_firstSlot 11 = .ok (.iload 4, 2) := by decide +kernel
theorem dX13_firstSlot_13 : decode cX13_firstSlot 13 = .ok (.invokevirtual 375, 3) := by decide +kernel
theorem dX13_firstSlot_16 : decode cX13_firstSlot 16 = .ok (.ifCond .eq 6, 3) := by decide +kernel
theorem dX13_firstSlot_19 : decode cX13_firstSlot 19 = .ok (.iload 4, 2) := by decide +kernel
theorem dX13_firstSlot_21 : decode cX13_firstSlot 21 = .ok (.ireturn, 1) := by decide +kernel
theorem dX13_firstSlot_22 : decode cX13_firstSlot 22 = .ok (.iinc 4 1, 3) := by decide +kernel
theorem dX13_firstSlot_25 : decode cX13_firstSlot 25 = .ok (.goto (-22), 3) := by decide +kernel
theorem dX13_firstSlot_28 : decode cX13_firstSlot 28 = .ok (.iconst (-1), 1) := by decide +kernel
theorem dX13_firstSlot_29 : decode cX13_firstSlot 29 = .ok (.ireturn, 1) := by decide +kernel
noncomputable def tX13_firstSlot_2 (j2 : qT (Int32 × qM)) : qT (Int32 × qM) :=
  oLi 4 (oLi 3 (oCGt (oC (.int (-1 : Int32)) (eI)) (oLa 0 (oLi 1 (oLi 4 (oCi GX13_mayBe 3 (oEq (oInc 4 (1 : Int32) (j2)) (oLi 4 (eI)))))))))
noncomputable def wX13_firstSlot_2 (k : Int32 → Int32 → Int32 → qM → Option (Int32 × qM)) : qT (Int32 × qM) := fun lo st m => match lo, st with
  | [some (.ref 98), some (.int a1), _, some (.int a3), some (.int a4)], [] => k a1 a3 a4 m
  | _, _ => none
set_option maxRecDepth 20000 in
theorem sX13_firstSlot_2 {C : qCx} {w : qWp} (h : qOk C w RX13 cX13_firstSlot 5 3 155 155) (hm : qMt C (some .int)) (hx : qNx C) {j2 : qT (Int32 × qM)} (k2 : qSnd C w 5 155 (qQf C w 155 155 jI) qfin 155 3 j2) : qSnd C w 5 155 (qQf C w 155 155 jI) qfin 155 3 (tX13_firstSlot_2 j2) :=
  cLI (pc := 3) h dX13_firstSlot_3 (cLi (pc := 5) h dX13_firstSlot_5 rfl (jCGt (pc := 6) h dX13_firstSlot_6 rfl (cC (pc := 28) h dX13_firstSlot_28 rfl (zI (pc := 29) h hm (Nat.le_refl _) dX13_firstSlot_29)) (cLa (pc := 9) h dX13_firstSlot_9 rfl (cLi (pc := 10) h dX13_firstSlot_10 rfl (cLI (pc := 11) h dX13_firstSlot_11 (kCi (pc := 13) h (kd_X13_375 h dX13_firstSlot_13) spX13_mayBe (by decide) (by decide) (by decide) (by decide) (jEq (pc := 16) h dX13_firstSlot_16 rfl (cInc (pc := 22) h dX13_firstSlot_22 rfl (jGo (pc := 25) h dX13_firstSlot_25 rfl (k2))) (cLI (pc := 19) h dX13_firstSlot_19 (zI (pc := 21) h hm (Nat.le_refl _) dX13_firstSlot_21)))))))))
set_option maxRecDepth 20000 in
theorem lX13_firstSlot_2 (n : Nat) (a1 : Int32) (a3 : Int32) (a4 : Int32) (m : qM) : tX13_firstSlot_2 (wX13_firstSlot_2 ((fX13_firstSlot_2 n))) [some (.ref 98), some (.int a1), none, some (.int a3), some (.int a4)] [] m = fX13_firstSlot_2 (n + 1) a1 a3 a4 m := rfl
theorem bX13_firstSlot_2 {C : qCx} {w : qWp} (h : qOk C w RX13 cX13_firstSlot 5 3 155 155) (hm : qMt C (some .int)) (hx : qNx C) : ∀ n : Nat, qSnd C w 5 155 (qQf C w 155 155 jI) qfin 155 3 (wX13_firstSlot_2 (fX13_firstSlot_2 n))
  | 0 => qSnd_of0 (fun lo st m x hr0 => by
    unfold wX13_firstSlot_2 at hr0
    split at hr0
    · cases hr0
    · cases hr0)
  | n + 1 => by
    have ih := bX13_firstSlot_2 h hm hx n
    exact qSnd_of (fun lo st m x hr0 => by
    unfold wX13_firstSlot_2 at hr0
    split at hr0
    · exact ⟨_, (qsub_e (qsub_e (qsub_n (qsub_e (qsub_e qsub_nil))))), (lX13_firstSlot_2 n _ _ _ _).trans hr0⟩
    · cases hr0) (sX13_firstSlot_2 h hm hx ih)
noncomputable def tX13_firstSlot_0 (j2 : qT (Int32 × qM)) : qT (Int32 × qM) :=
  oLi 2 (oSi 4 (j2))
set_option maxRecDepth 20000 in
theorem sX13_firstSlot_0 {C : qCx} {w : qWp} (h : qOk C w RX13 cX13_firstSlot 5 3 155 155) (hm : qMt C (some .int)) (hx : qNx C) {j2 : qT (Int32 × qM)} (k2 : qSnd C w 5 155 (qQf C w 155 155 jI) qfin 155 3 j2) : qSnd C w 5 155 (qQf C w 155 155 jI) qfin 155 0 (tX13_firstSlot_0 j2) :=
  cLi (pc := 0) h dX13_firstSlot_0 rfl (cSI (pc := 1) h dX13_firstSlot_1 (k2))
set_option maxRecDepth 20000 in
theorem lX13_firstSlot_0 (a1 : Int32) (a2 : Int32) (a3 : Int32) (m : qM) : tX13_firstSlot_0 (wX13_firstSlot_2 (fX13_firstSlot_2 FU)) [some (.ref 98), some (.int a1), some (.int a2), some (.int a3), none] [] m = fX13_firstSlot_0 a1 a2 a3 m := rfl
noncomputable def GX13_firstSlot : qG Int32 := fun av m => match av with
  | [.ref 98, .int a1, .int a2, .int a3] => fX13_firstSlot a1 a2 a3 m
  | _ => none
theorem spX13_firstSlot : qSpI yX13_firstSlot (.code yX13_firstSlot cX13_firstSlot 5 (some .int)) 3 qfin 155 155 1 GX13_firstSlot := by
  intro av m x m' hG
  unfold GX13_firstSlot at hG
  split at hG
  · rename_i a1 a2 a3
    rw [fX13_firstSlot_d] at hG
    exact ⟨qmeet (J := jI) (r := (x, m')) (av := [.ref 98, .int a1, .int a2, .int a3]) (by decide +kernel) (Nat.le_of_ble_eq_true rfl) (fun C w h hm hx hn => sX13_firstSlot_0 h hm hx (bX13_firstSlot_2 h hm hx FU)) ((lX13_firstSlot_0 _ _ _ _).trans hG) (Nat.le_of_ble_eq_true rfl), Or.inl ⟨98, _, 13, _, _, rfl, by decide, rfl, qCk_13, rfl⟩⟩
  · cases hG
theorem im_X13_firstSlot : Jvm.Cond.instanceMethod yX13_firstSlot ∈ qTw := qm8 (List.mem_of_getElem? (i := 176) (by decide +kernel)) (by decide +kernel)
theorem se_X13_firstSlot : Jvm.Cond.selects yX13_firstSlot.cls yX13_firstSlot yX13_firstSlot ∈ qTw := List.mem_filter.mpr ⟨List.mem_append_left _ (List.mem_of_getElem? (i := 56) (by decide +kernel)), rfl⟩
theorem co_X13_firstSlot : Jvm.Cond.code yX13_firstSlot cX13_firstSlot 5 (some .int) ∈ qTw := qm8 (List.mem_of_getElem? (i := 177) (by decide +kernel)) (by decide +kernel)
theorem yk_X13_firstSlot : qYk yX13_firstSlot 3 := ⟨⟨by decide +kernel, by decide +kernel⟩, by decide +kernel⟩
theorem ml_X13_378 : Jvm.Cond.methodLink RX13 378 yX13_firstSlot ∈ qTw := qm8 (List.mem_of_getElem? (i := 174) (by decide +kernel)) (by decide +kernel)
theorem kd_X13_378 {C : qCx} {w : qWp} {cc : ByteArray} {nL dp n0 n1 pc : Nat} (h : qOk C w RX13 cc nL dp n0 n1) (d : decode cc pc = .ok (.invokevirtual 378, 3)) : qCallOk C w nL dp n0 n1 pc 4 1 yX13_firstSlot (.code yX13_firstSlot cX13_firstSlot 5 (some .int)) := kindV h d ml_X13_378 im_X13_firstSlot se_X13_firstSlot in_ParentEveModel co_X13_firstSlot yk_X13_firstSlot (by decide)
theorem dX13_layAll_0 : decode cX13_layAll 0 = .ok (.aload_n 0, 1) := by decide +kernel
theorem dX13_layAll_1 : decode cX13_layAll 1 = .ok (.getfield 316, 3) := by decide +kernel
theorem dX13_layAll_4 : decode cX13_layAll 4 = .ok (.ifCond .eq 6, 3) := by decide +kernel
theorem dX13_layAll_7 : decode cX13_layAll 7 = .ok (.bipush (-4), 2) := by decide +kernel
theorem dX13_layAll_9 : decode cX13_layAll 9 = .ok (.ireturn, 1) := by decide +kernel
theorem dX13_layAll_10 : decode cX13_layAll 10 = .ok (.iconst 0, 1) := by decide +kernel
theorem dX13_layAll_11 : decode cX13_layAll 11 = .ok (.istore_n 1, 1) := by decide +kernel
theorem dX13_layAll_12 : decode cX13_layAll 12 = .ok (.iconst 1, 1) := by decide +kernel
theorem dX13_layAll_13 : decode cX13_layAll 13 = .ok (.istore_n 2, 1) := by decide +kernel
theorem dX13_layAll_14 : decode cX13_layAll 14 = .ok (.iload_n 2, 1) := by decide +kernel
theorem dX13_layAll_15 : decode cX13_layAll 15 = .ok (.ifCond .lt 162, 3) := by decide +kernel
theorem dX13_layAll_18 : decode cX13_layAll 18 = .ok (.bipush 9, 2) := by decide +kernel
theorem dX13_layAll_20 : decode cX13_layAll 20 = .ok (.istore_n 3, 1) := by decide +kernel
theorem dX13_layAll_21 : decode cX13_layAll 21 = .ok (.iload_n 3, 1) := by decide +kernel
theorem dX13_layAll_22 : decode cX13_layAll 22 = .ok (.ifCond .lt 149, 3) := by decide +kernel
theorem dX13_layAll_25 : decode cX13_layAll 25 = .ok (.iconst 0, 1) := by decide +kernel
theorem dX13_layAll_26 : decode cX13_layAll 26 = .ok (.istore 4, 2) := by decide +kernel
theorem dX13_layAll_28 : decode cX13_layAll 28 = .ok (.iload 4, 2) := by decide +kernel
theorem dX13_layAll_30 : decode cX13_layAll 30 = .ok (.aload_n 0, 1) := by decide +kernel
theorem dX13_layAll_31 : decode cX13_layAll 31 = .ok (.getfield 313, 3) := by decide +kernel
theorem dX13_layAll_34 : decode cX13_layAll 34 = .ok (.if_icmp .ge 131, 3) := by decide +kernel
theorem dX13_layAll_37 : decode cX13_layAll 37 = .ok (.aload_n 0, 1) := by decide +kernel
theorem dX13_layAll_38 : decode cX13_layAll 38 = .ok (.getfield 215, 3) := by decide +kernel
theorem dX13_layAll_41 : decode cX13_layAll 41 = .ok (.iload 4, 2) := by decide +kernel
theorem dX13_layAll_43 : decode cX13_layAll 43 = .ok (.iaload, 1) := by decide +kernel
theorem dX13_layAll_44 : decode cX13_layAll 44 = .ok (.istore 5, 2) := by decide +kernel
theorem dX13_layAll_46 : decode cX13_layAll 46 = .ok (.aload_n 0, 1) := by decide +kernel
theorem dX13_layAll_47 : decode cX13_layAll 47 = .ok (.getfield 221, 3) := by decide +kernel
theorem dX13_layAll_50 : decode cX13_layAll 50 = .ok (.iload 4, 2) := by decide +kernel
theorem dX13_layAll_52 : decode cX13_layAll 52 = .ok (.iaload, 1) := by decide +kernel
theorem dX13_layAll_53 : decode cX13_layAll 53 = .ok (.iconst (-1), 1) := by decide +kernel
theorem dX13_layAll_54 : decode cX13_layAll 54 = .ok (.if_icmp .ne 105, 3) := by decide +kernel
theorem dX13_layAll_57 : decode cX13_layAll 57 = .ok (.aload_n 0, 1) := by decide +kernel
theorem dX13_layAll_58 : decode cX13_layAll 58 = .ok (.getfield 223, 3) := by decide +kernel
theorem dX13_layAll_61 : decode cX13_layAll 61 = .ok (.iload 4, 2) := by decide +kernel
theorem dX13_layAll_63 : decode cX13_layAll 63 = .ok (.baload, 1) := by decide +kernel
theorem dX13_layAll_64 : decode cX13_layAll 64 = .ok (.iload_n 2, 1) := by decide +kernel
theorem dX13_layAll_65 : decode cX13_layAll 65 = .ok (.iconst 1, 1) := by decide +kernel
theorem dX13_layAll_66 : decode cX13_layAll 66 = .ok (.if_icmp .ne 7, 3) := by decide +kernel
theorem dX13_layAll_69 : decode cX13_layAll 69 = .ok (.iconst 1, 1) := by decide +kernel
theorem dX13_layAll_70 : decode cX13_layAll 70 = .ok (.goto 4, 3) := by decide +kernel
theorem dX13_layAll_73 : decode cX13_layAll 73 = .ok (.iconst 0, 1) := by decide +kernel
theorem dX13_layAll_74 : decode cX13_layAll 74 = .ok (.if_icmp .ne 85, 3) := by decide +kernel
theorem dX13_layAll_77 : decode cX13_layAll 77 = .ok (.aload_n 0, 1) := by decide +kernel
theorem dX13_layAll_78 : decode cX13_layAll 78 = .ok (.getfield 209, 3) := by decide +kernel
theorem dX13_layAll_81 : decode cX13_layAll 81 = .ok (.iload 5, 2) := by decide +kernel
theorem dX13_layAll_83 : decode cX13_layAll 83 = .ok (.iaload, 1) := by decide +kernel
theorem dX13_layAll_84 : decode cX13_layAll 84 = .ok (.iload_n 3, 1) := by decide +kernel
theorem dX13_layAll_85 : decode cX13_layAll 85 = .ok (.if_icmp .eq 6, 3) := by decide +kernel
theorem dX13_layAll_88 : decode cX13_layAll 88 = .ok (.goto 71, 3) := by decide +kernel
theorem dX13_layAll_91 : decode cX13_layAll 91 = .ok (.aload_n 0, 1) := by decide +kernel
theorem dX13_layAll_92 : decode cX13_layAll 92 = .ok (.iload 4, 2) := by decide +kernel
theorem dX13_layAll_94 : decode cX13_layAll 94 = .ok (.aload_n 0, 1) := by decide +kernel
theorem dX13_layAll_95 : decode cX13_layAll 95 = .ok (.getfield 203, 3) := by decide +kernel
theorem dX13_layAll_98 : decode cX13_layAll 98 = .ok (.iload 5, 2) := by decide +kernel
theorem dX13_layAll_100 : decode cX13_layAll 100 = .ok (.iaload, 1) := by decide +kernel
theorem dX13_layAll_101 : decode cX13_layAll 101 = .ok (.aload_n 0, 1) := by decide +kernel
theorem dX13_layAll_102 : decode cX13_layAll 102 = .ok (.getfield 206, 3) := by decide +kernel
theorem dX13_layAll_105 : decode cX13_layAll 105 = .ok (.iload 5, 2) := by decide +kernel
theorem dX13_layAll_107 : decode cX13_layAll 107 = .ok (.iaload, 1) := by decide +kernel
theorem dX13_layAll_108 : decode cX13_layAll 108 = .ok (.invokevirtual 378, 3) := by decide +kernel
theorem dX13_layAll_111 : decode cX13_layAll 111 = .ok (.istore 6, 2) := by decide +kernel
theorem dX13_layAll_113 : decode cX13_layAll 113 = .ok (.aload_n 0, 1) := by decide +kernel
theorem dX13_layAll_114 : decode cX13_layAll 114 = .ok (.getfield 221, 3) := by decide +kernel
theorem dX13_layAll_117 : decode cX13_layAll 117 = .ok (.iload 4, 2) := by decide +kernel
theorem dX13_layAll_119 : decode cX13_layAll 119 = .ok (.iload 6, 2) := by decide +kernel
theorem dX13_layAll_121 : decode cX13_layAll 121 = .ok (.iconst (-1), 1) := by decide +kernel
theorem dX13_layAll_122 : decode cX13_layAll 122 = .ok (.if_icmp .eq 8, 3) := by decide +kernel
theorem dX13_layAll_125 : decode cX13_layAll 125 = .ok (.iload 6, 2) := by decide +kernel
theorem dX13_layAll_127 : decode cX13_layAll 127 = .ok (.goto 12, 3) := by decide +kernel
theorem dX13_layAll_130 : decode cX13_layAll 130 = .ok (.aload_n 0, 1) := by decide +kernel
theorem dX13_layAll_131 : decode cX13_layAll 131 = .ok (.iload 4, 2) := by decide +kernel
theorem dX13_layAll_133 : decode cX13_layAll 133 = .ok (.iconst 0, 1) := by decide +kernel
theorem dX13_layAll_134 : decode cX13_layAll 134 = .ok (.bipush 19, 2) := by decide +kernel
theorem dX13_layAll_136 : decode cX13_layAll 136 = .ok (.invokevirtual 378, 3) := by decide +kernel
theorem dX13_layAll_139 : decode cX13_layAll 139 = .ok (.iastore, 1) := by decide +kernel
theorem dX13_layAll_140 : decode cX13_layAll 140 = .ok (.iload_n 1, 1) := by decide +kernel
theorem dX13_layAll_141 : decode cX13_layAll 141 = .ok (.aload_n 0, 1) := by decide +kernel
theorem dX13_layAll_142 : decode cX13_layAll 142 = .ok (.getfield 221, 3) := by decide +kernel
theorem dX13_layAll_145 : decode cX13_layAll 145 = .ok (.iload 4, 2) := by decide +kernel
theorem dX13_layAll_147 : decode cX13_layAll 147 = .ok (.iaload, 1) := by decide +kernel
theorem dX13_layAll_148 : decode cX13_layAll 148 = .ok (.iconst (-1), 1) := by decide +kernel
theorem dX13_layAll_149 : decode cX13_layAll 149 = .ok (.if_icmp .eq 7, 3) := by decide +kernel
theorem dX13_layAll_152 : decode cX13_layAll 152 = .ok (.iconst 1, 1) := by decide +kernel
theorem dX13_layAll_153 : decode cX13_layAll 153 = .ok (.goto 4, 3) := by decide +kernel
theorem dX13_layAll_156 : decode cX13_layAll 156 = .ok (.iconst 0, 1) := by decide +kernel
theorem dX13_layAll_157 : decode cX13_layAll 157 = .ok (.iadd, 1) := by decide +kernel
theorem dX13_layAll_158 : decode cX13_layAll 158 = .ok (.istore_n 1, 1) := by decide +kernel
theorem dX13_layAll_159 : decode cX13_layAll 159 = .ok (.iinc 4 1, 3) := by decide +kernel
theorem dX13_layAll_162 : decode cX13_layAll 162 = .ok (.goto (-134), 3) := by decide +kernel
theorem dX13_layAll_165 : decode cX13_layAll 165 = .ok (.iinc 3 (-1), 3) := by decide +kernel
theorem dX13_layAll_168 : decode cX13_layAll 168 = .ok (.goto (-147), 3) := by decide +kernel
theorem dX13_layAll_171 : decode cX13_layAll 171 = .ok (.iinc 2 (-1), 3) := by decide +kernel
theorem dX13_layAll_174 : decode cX13_layAll 174 = .ok (.goto (-160), 3) := by decide +kernel
theorem dX13_layAll_177 : decode cX13_layAll 177 = .ok (.iload_n 1, 1) := by decide +kernel
theorem dX13_layAll_178 : decode cX13_layAll 178 = .ok (.ireturn, 1) := by decide +kernel
noncomputable def tX13_layAll_88 (j17 : qT (Int32 × qM)) : qT (Int32 × qM) :=
  oInc 4 (1 : Int32) (j17)
noncomputable def wX13_layAll_88 (k : Int32 → Int32 → Int32 → Int32 → qM → Option (Int32 × qM)) : qT (Int32 × qM) := fun lo st m => match lo, st with
  | [some (.ref 98), some (.int a1), some (.int a2), some (.int a3), some (.int a4), _, _], [] => k a1 a2 a3 a4 m
  | _, _ => none
noncomputable def wX13_layAll_17 (k : Int32 → Int32 → Int32 → Int32 → qM → Option (Int32 × qM)) : qT (Int32 × qM) := fun lo st m => match lo, st with
  | [some (.ref 98), some (.int a1), some (.int a2), some (.int a3), some (.int a4), _, _], [] => k a1 a2 a3 a4 m
  | _, _ => none
set_option maxRecDepth 20000 in
theorem sX13_layAll_88 {C : qCx} {w : qWp} (h : qOk C w RX13 cX13_layAll 7 4 155 155) (hm : qMt C (some .int)) (hx : qNx C) {j17 : qT (Int32 × qM)} (k17 : qSnd C w 7 155 (qQf C w 155 155 jI) qfin 155 28 j17) : qSnd C w 7 155 (qQf C w 155 155 jI) qfin 155 159 (tX13_layAll_88 j17) :=
  cInc (pc := 159) h dX13_layAll_159 rfl (jGo (pc := 162) h dX13_layAll_162 rfl (k17))
set_option maxRecDepth 20000 in
theorem lX13_layAll_88 (k17 : Int32 → Int32 → Int32 → Int32 → qM → Option (Int32 × qM)) (a1 : Int32) (a2 : Int32) (a3 : Int32) (a4 : Int32) (m : qM) : tX13_layAll_88 (wX13_layAll_17 k17) [some (.ref 98), some (.int a1), some (.int a2), some (.int a3), some (.int a4), none, none] [] m = fX13_layAll_88 k17 a1 a2 a3 a4 m := rfl
theorem bX13_layAll_88 {C : qCx} {w : qWp} (h : qOk C w RX13 cX13_layAll 7 4 155 155) (hm : qMt C (some .int)) (hx : qNx C) {k17 : Int32 → Int32 → Int32 → Int32 → qM → Option (Int32 × qM)} (h17 : qSnd C w 7 155 (qQf C w 155 155 jI) qfin 155 28 (wX13_layAll_17 k17)) : qSnd C w 7 155 (qQf C w 155 155 jI) qfin 155 159 (wX13_layAll_88 (fX13_layAll_88 k17)) :=
  qSnd_of (fun lo st m x hr0 => by
    unfold wX13_layAll_88 at hr0
    split at hr0
    · exact ⟨_, (qsub_e (qsub_e (qsub_e (qsub_e (qsub_e (qsub_n (qsub_n qsub_nil))))))), (lX13_layAll_88 _ _ _ _ _ _).trans hr0⟩
    · cases hr0) (sX13_layAll_88 h hm hx h17)
noncomputable def tX13_layAll_86 (j88 : qT (Int32 × qM)) : qT (Int32 × qM) :=
  o2 (· + ·) (oSi 1 (j88))
noncomputable def wX13_layAll_86 (k : Int32 → Int32 → Int32 → Int32 → Int32 → qM → Option (Int32 × qM)) : qT (Int32 × qM) := fun lo st m => match lo, st with
  | [some (.ref 98), _, some (.int a2), some (.int a3), some (.int a4), _, _], [.int s0, .int s1] => k a2 a3 a4 s0 s1 m
  | _, _ => none
set_option maxRecDepth 20000 in
theorem sX13_layAll_86 {C : qCx} {w : qWp} (h : qOk C w RX13 cX13_layAll 7 4 155 155) (hm : qMt C (some .int)) (hx : qNx C) {j88 : qT (Int32 × qM)} (k88 : qSnd C w 7 155 (qQf C w 155 155 jI) qfin 155 159 j88) : qSnd C w 7 155 (qQf C w 155 155 jI) qfin 155 157 (tX13_layAll_86 j88) :=
  aAdd (pc := 157) h dX13_layAll_157 (cSi (pc := 158) h dX13_layAll_158 rfl (k88))
set_option maxRecDepth 20000 in
theorem lX13_layAll_86 (k17 : Int32 → Int32 → Int32 → Int32 → qM → Option (Int32 × qM)) (a2 : Int32) (a3 : Int32) (a4 : Int32) (s0 : Int32) (s1 : Int32) (m : qM) : tX13_layAll_86 (wX13_layAll_88 (fX13_layAll_88 k17)) [some (.ref 98), none, some (.int a2), some (.int a3), some (.int a4), none, none] [(.int s0), (.int s1)] m = fX13_layAll_86 k17 a2 a3 a4 s0 s1 m := rfl
theorem bX13_layAll_86 {C : qCx} {w : qWp} (h : qOk C w RX13 cX13_layAll 7 4 155 155) (hm : qMt C (some .int)) (hx : qNx C) {k17 : Int32 → Int32 → Int32 → Int32 → qM → Option (Int32 × qM)} (h17 : qSnd C w 7 155 (qQf C w 155 155 jI) qfin 155 28 (wX13_layAll_17 k17)) : qSnd C w 7 155 (qQf C w 155 155 jI) qfin 155 157 (wX13_layAll_86 (fX13_layAll_86 k17)) :=
  qSnd_of (fun lo st m x hr0 => by
    unfold wX13_layAll_86 at hr0
    split at hr0
    · exact ⟨_, (qsub_e (qsub_n (qsub_e (qsub_e (qsub_e (qsub_n (qsub_n qsub_nil))))))), (lX13_layAll_86 _ _ _ _ _ _ _).trans hr0⟩
    · cases hr0) (sX13_layAll_86 h hm hx (bX13_layAll_88 h hm hx h17))
noncomputable def tX13_layAll_75 (j86 : qT (Int32 × qM)) : qT (Int32 × qM) :=
  oWi 125 40 (oLi 1 (oLa 0 (oGf 98 36 125 (oLi 4 (oAi 125 40 (oC (.int (-1 : Int32)) (oCEq (oC (.int (0 : Int32)) (j86)) (oC (.int (1 : Int32)) (j86)))))))))
noncomputable def wX13_layAll_75 (k : Int32 → Int32 → Int32 → Int32 → Int32 → Int32 → qM → Option (Int32 × qM)) : qT (Int32 × qM) := fun lo st m => match lo, st with
  | [some (.ref 98), some (.int a1), some (.int a2), some (.int a3), some (.int a4), _, _], [.int s0, .int s1, .ref 125] => k a1 a2 a3 a4 s0 s1 m
  | _, _ => none
set_option maxRecDepth 20000 in
theorem sX13_layAll_75 {C : qCx} {w : qWp} (h : qOk C w RX13 cX13_layAll 7 4 155 155) (hm : qMt C (some .int)) (hx : qNx C) {j86 : qT (Int32 × qM)} (k86 : qSnd C w 7 155 (qQf C w 155 155 jI) qfin 155 157 j86) : qSnd C w 7 155 (qQf C w 155 155 jI) qfin 155 139 (tX13_layAll_75 j86) :=
  rWi (pc := 139) h dX13_layAll_139 rfl (Nat.le_of_ble_eq_true rfl) (Nat.le_of_ble_eq_true rfl) (cLi (pc := 140) h dX13_layAll_140 rfl (cLa (pc := 141) h dX13_layAll_141 rfl (gGf (pc := 142) h dX13_layAll_142 ff_X13_221_98 (Nat.le_of_ble_eq_true rfl) (Nat.le_of_ble_eq_true rfl) rfl (cLI (pc := 145) h dX13_layAll_145 (rAi (pc := 147) h dX13_layAll_147 rfl (Nat.le_of_ble_eq_true rfl) (Nat.le_of_ble_eq_true rfl) (cC (pc := 148) h dX13_layAll_148 rfl (jCEq (pc := 149) h dX13_layAll_149 rfl (cC (pc := 156) h dX13_layAll_156 rfl (k86)) (cC (pc := 152) h dX13_layAll_152 rfl (jGo (pc := 153) h dX13_layAll_153 rfl (k86))))))))))
set_option maxRecDepth 20000 in
theorem lX13_layAll_75 (k17 : Int32 → Int32 → Int32 → Int32 → qM → Option (Int32 × qM)) (a1 : Int32) (a2 : Int32) (a3 : Int32) (a4 : Int32) (s0 : Int32) (s1 : Int32) (m : qM) : tX13_layAll_75 (wX13_layAll_86 (fX13_layAll_86 k17)) [some (.ref 98), some (.int a1), some (.int a2), some (.int a3), some (.int a4), none, none] [(.int s0), (.int s1), (.ref 125)] m = fX13_layAll_75 k17 a1 a2 a3 a4 s0 s1 m := rfl
theorem bX13_layAll_75 {C : qCx} {w : qWp} (h : qOk C w RX13 cX13_layAll 7 4 155 155) (hm : qMt C (some .int)) (hx : qNx C) {k17 : Int32 → Int32 → Int32 → Int32 → qM → Option (Int32 × qM)} (h17 : qSnd C w 7 155 (qQf C w 155 155 jI) qfin 155 28 (wX13_layAll_17 k17)) : qSnd C w 7 155 (qQf C w 155 155 jI) qfin 155 139 (wX13_layAll_75 (fX13_layAll_75 k17)) :=
  qSnd_of (fun lo st m x hr0 => by
    unfold wX13_layAll_75 at hr0
    split at hr0
    · exact ⟨_, (qsub_e (qsub_e (qsub_e (qsub_e (qsub_e (qsub_n (qsub_n qsub_nil))))))), (lX13_layAll_75 _ _ _ _ _ _ _ _).trans hr0⟩
    · cases hr0) (sX13_layAll_75 h hm hx (bX13_layAll_86 h hm hx h17))
noncomputable def tX13_layAll_42 (j88 : qT (Int32 × qM)) (j75 : qT (Int32 × qM)) : qT (Int32 × qM) :=
  oCEq (oLa 0 (oGf 98 30 121 (oLi 5 (oAi 121 15 (oLi 3 (oCEq (oLa 0 (oLi 4 (oLa 0 (oGf 98 28 119 (oLi 5 (oAi 119 15 (oLa 0 (oGf 98 29 120 (oLi 5 (oAi 120 15 (oCi GX13_firstSlot 4 (oSi 6 (oLa 0 (oGf 98 36 125 (oLi 4 (oLi 6 (oC (.int (-1 : Int32)) (oCEq (oLa 0 (oLi 4 (oC (.int (0 : Int32)) (oC (.int (19 : Int32)) (oCi GX13_firstSlot 4 (j75)))))) (oLi 6 (j75)))))))))))))))))))) (j88))))))) (j88)
noncomputable def wX13_layAll_42 (k : Int32 → Int32 → Int32 → Int32 → Int32 → Int32 → Int32 → qM → Option (Int32 × qM)) : qT (Int32 × qM) := fun lo st m => match lo, st with
  | [some (.ref 98), some (.int a1), some (.int a2), some (.int a3), some (.int a4), some (.int a5), _], [.int s0, .int s1] => k a1 a2 a3 a4 a5 s0 s1 m
  | _, _ => none
set_option maxRecDepth 20000 in
theorem sX13_layAll_42 {C : qCx} {w : qWp} (h : qOk C w RX13 cX13_layAll 7 4 155 155) (hm : qMt C (some .int)) (hx : qNx C) {j88 : qT (Int32 × qM)} {j75 : qT (Int32 × qM)} (k88 : qSnd C w 7 155 (qQf C w 155 155 jI) qfin 155 159 j88) (k75 : qSnd C w 7 155 (qQf C w 155 155 jI) qfin 155 139 j75) : qSnd C w 7 155 (qQf C w 155 155 jI) qfin 155 74 (tX13_layAll_42 j88 j75) :=
  jCNe (pc := 74) h dX13_layAll_74 rfl (k88) (cLa (pc := 77) h dX13_layAll_77 rfl (gGf (pc := 78) h dX13_layAll_78 ff_X13_209_98 (Nat.le_of_ble_eq_true rfl) (Nat.le_of_ble_eq_true rfl) rfl (cLI (pc := 81) h dX13_layAll_81 (rAi (pc := 83) h dX13_layAll_83 rfl (Nat.le_of_ble_eq_true rfl) (Nat.le_of_ble_eq_true rfl) (cLi (pc := 84) h dX13_layAll_84 rfl (jCEq (pc := 85) h dX13_layAll_85 rfl (cLa (pc := 91) h dX13_layAll_91 rfl (cLI (pc := 92) h dX13_layAll_92 (cLa (pc := 94) h dX13_layAll_94 rfl (gGf (pc := 95) h dX13_layAll_95 ff_X13_203_98 (Nat.le_of_ble_eq_true rfl) (Nat.le_of_ble_eq_true rfl) rfl (cLI (pc := 98) h dX13_layAll_98 (rAi (pc := 100) h dX13_layAll_100 rfl (Nat.le_of_ble_eq_true rfl) (Nat.le_of_ble_eq_true rfl) (cLa (pc := 101) h dX13_layAll_101 rfl (gGf (pc := 102) h dX13_layAll_102 ff_X13_206_98 (Nat.le_of_ble_eq_true rfl) (Nat.le_of_ble_eq_true rfl) rfl (cLI (pc := 105) h dX13_layAll_105 (rAi (pc := 107) h dX13_layAll_107 rfl (Nat.le_of_ble_eq_true rfl) (Nat.le_of_ble_eq_true rfl) (kCi (pc := 108) h (kd_X13_378 h dX13_layAll_108) spX13_firstSlot (by decide) (by decide) (by decide) (by decide) (cSI (pc := 111) h dX13_layAll_111 (cLa (pc := 113) h dX13_layAll_113 rfl (gGf (pc := 114) h dX13_layAll_114 ff_X13_221_98 (Nat.le_of_ble_eq_true rfl) (Nat.le_of_ble_eq_true rfl) rfl (cLI (pc := 117) h dX13_layAll_117 (cLI (pc := 119) h dX13_layAll_119 (cC (pc := 121) h dX13_layAll_121 rfl (jCEq (pc := 122) h dX13_layAll_122 rfl (cLa (pc := 130) h dX13_layAll_130 rfl (cLI (pc := 131) h dX13_layAll_131 (cC (pc := 133) h dX13_layAll_133 rfl (cB (pc := 134) h dX13_layAll_134 rfl (kCi (pc := 136) h (kd_X13_378 h dX13_layAll_136) spX13_firstSlot (by decide) (by decide) (by decide) (by decide) (k75)))))) (cLI (pc := 125) h dX13_layAll_125 (jGo (pc := 127) h dX13_layAll_127 rfl (k75))))))))))))))))))))) (jGo (pc := 88) h dX13_layAll_88 rfl (k88))))))))
set_option maxRecDepth 20000 in
theorem lX13_layAll_42 (k17 : Int32 → Int32 → Int32 → Int32 → qM → Option (Int32 × qM)) (a1 : Int32) (a2 : Int32) (a3 : Int32) (a4 : Int32) (a5 : Int32) (s0 : Int32) (s1 : Int32) (m : qM) : tX13_layAll_42 (wX13_layAll_88 (fX13_layAll_88 k17)) (wX13_layAll_75 (fX13_layAll_75 k17)) [some (.ref 98), some (.int a1), some (.int a2), some (.int a3), some (.int a4), some (.int a5), none] [(.int s0), (.int s1)] m = fX13_layAll_42 k17 a1 a2 a3 a4 a5 s0 s1 m := rfl
theorem bX13_layAll_42 {C : qCx} {w : qWp} (h : qOk C w RX13 cX13_layAll 7 4 155 155) (hm : qMt C (some .int)) (hx : qNx C) {k17 : Int32 → Int32 → Int32 → Int32 → qM → Option (Int32 × qM)} (h17 : qSnd C w 7 155 (qQf C w 155 155 jI) qfin 155 28 (wX13_layAll_17 k17)) : qSnd C w 7 155 (qQf C w 155 155 jI) qfin 155 74 (wX13_layAll_42 (fX13_layAll_42 k17)) :=
  qSnd_of (fun lo st m x hr0 => by
    unfold wX13_layAll_42 at hr0
    split at hr0
    · exact ⟨_, (qsub_e (qsub_e (qsub_e (qsub_e (qsub_e (qsub_e (qsub_n qsub_nil))))))), (lX13_layAll_42 _ _ _ _ _ _ _ _ _).trans hr0⟩
    · cases hr0) (sX13_layAll_42 h hm hx (bX13_layAll_88 h hm hx h17) (bX13_layAll_75 h hm hx h17))
noncomputable def tX13_layAll_17 (j13 : qT (Int32 × qM)) (j88 : qT (Int32 × qM)) (j42 : qT (Int32 × qM)) : qT (Int32 × qM) :=
  oLi 4 (oLa 0 (oGi 98 32 (oCGe (oInc 3 (-1 : Int32) (j13)) (oLa 0 (oGf 98 34 123 (oLi 4 (oAi 123 40 (oSi 5 (oLa 0 (oGf 98 36 125 (oLi 4 (oAi 125 40 (oC (.int (-1 : Int32)) (oCEq (oLa 0 (oGf 98 37 126 (oLi 4 (oAi 126 40 (oLi 2 (oC (.int (1 : Int32)) (oCEq (oC (.int (1 : Int32)) (j42)) (oC (.int (0 : Int32)) (j42))))))))) (j88)))))))))))))))
noncomputable def wX13_layAll_13 (k : Int32 → Int32 → Int32 → qM → Option (Int32 × qM)) : qT (Int32 × qM) := fun lo st m => match lo, st with
  | [some (.ref 98), some (.int a1), some (.int a2), some (.int a3), _, _, _], [] => k a1 a2 a3 m
  | _, _ => none
set_option maxRecDepth 20000 in
theorem sX13_layAll_17 {C : qCx} {w : qWp} (h : qOk C w RX13 cX13_layAll 7 4 155 155) (hm : qMt C (some .int)) (hx : qNx C) {j13 : qT (Int32 × qM)} {j88 : qT (Int32 × qM)} {j42 : qT (Int32 × qM)} (k13 : qSnd C w 7 155 (qQf C w 155 155 jI) qfin 155 21 j13) (k88 : qSnd C w 7 155 (qQf C w 155 155 jI) qfin 155 159 j88) (k42 : qSnd C w 7 155 (qQf C w 155 155 jI) qfin 155 74 j42) : qSnd C w 7 155 (qQf C w 155 155 jI) qfin 155 28 (tX13_layAll_17 j13 j88 j42) :=
  cLI (pc := 28) h dX13_layAll_28 (cLa (pc := 30) h dX13_layAll_30 rfl (gGi (pc := 31) h dX13_layAll_31 ff_X13_313_98 (Nat.le_of_ble_eq_true rfl) (Nat.le_of_ble_eq_true rfl) (jCGe (pc := 34) h dX13_layAll_34 rfl (cInc (pc := 165) h dX13_layAll_165 rfl (jGo (pc := 168) h dX13_layAll_168 rfl (k13))) (cLa (pc := 37) h dX13_layAll_37 rfl (gGf (pc := 38) h dX13_layAll_38 ff_X13_215_98 (Nat.le_of_ble_eq_true rfl) (Nat.le_of_ble_eq_true rfl) rfl (cLI (pc := 41) h dX13_layAll_41 (rAi (pc := 43) h dX13_layAll_43 rfl (Nat.le_of_ble_eq_true rfl) (Nat.le_of_ble_eq_true rfl) (cSI (pc := 44) h dX13_layAll_44 (cLa (pc := 46) h dX13_layAll_46 rfl (gGf (pc := 47) h dX13_layAll_47 ff_X13_221_98 (Nat.le_of_ble_eq_true rfl) (Nat.le_of_ble_eq_true rfl) rfl (cLI (pc := 50) h dX13_layAll_50 (rAi (pc := 52) h dX13_layAll_52 rfl (Nat.le_of_ble_eq_true rfl) (Nat.le_of_ble_eq_true rfl) (cC (pc := 53) h dX13_layAll_53 rfl (jCNe (pc := 54) h dX13_layAll_54 rfl (k88) (cLa (pc := 57) h dX13_layAll_57 rfl (gGf (pc := 58) h dX13_layAll_58 ff_X13_223_98 (Nat.le_of_ble_eq_true rfl) (Nat.le_of_ble_eq_true rfl) rfl (cLI (pc := 61) h dX13_layAll_61 (rAz (pc := 63) h dX13_layAll_63 rfl (Nat.le_of_ble_eq_true rfl) (Nat.le_of_ble_eq_true rfl) (cLi (pc := 64) h dX13_layAll_64 rfl (cC (pc := 65) h dX13_layAll_65 rfl (jCNe (pc := 66) h dX13_layAll_66 rfl (cC (pc := 73) h dX13_layAll_73 rfl (k42)) (cC (pc := 69) h dX13_layAll_69 rfl (jGo (pc := 70) h dX13_layAll_70 rfl (k42))))))))))))))))))))))))
set_option maxRecDepth 20000 in
theorem lX13_layAll_17 (k13 : Int32 → Int32 → Int32 → qM → Option (Int32 × qM)) (n : Nat) (a1 : Int32) (a2 : Int32) (a3 : Int32) (a4 : Int32) (m : qM) : tX13_layAll_17 (wX13_layAll_13 k13) (wX13_layAll_88 (fX13_layAll_88 (fX13_layAll_17 k13 n))) (wX13_layAll_42 (fX13_layAll_42 (fX13_layAll_17 k13 n))) [some (.ref 98), some (.int a1), some (.int a2), some (.int a3), some (.int a4), none, none] [] m = fX13_layAll_17 k13 (n + 1) a1 a2 a3 a4 m := rfl
theorem bX13_layAll_17 {C : qCx} {w : qWp} (h : qOk C w RX13 cX13_layAll 7 4 155 155) (hm : qMt C (some .int)) (hx : qNx C) {k13 : Int32 → Int32 → Int32 → qM → Option (Int32 × qM)} (h13 : qSnd C w 7 155 (qQf C w 155 155 jI) qfin 155 21 (wX13_layAll_13 k13)) : ∀ n : Nat, qSnd C w 7 155 (qQf C w 155 155 jI) qfin 155 28 (wX13_layAll_17 (fX13_layAll_17 k13 n))
  | 0 => qSnd_of0 (fun lo st m x hr0 => by
    unfold wX13_layAll_17 at hr0
    split at hr0
    · cases hr0
    · cases hr0)
  | n + 1 => by
    have ih := bX13_layAll_17 h hm hx h13 n
    exact qSnd_of (fun lo st m x hr0 => by
    unfold wX13_layAll_17 at hr0
    split at hr0
    · exact ⟨_, (qsub_e (qsub_e (qsub_e (qsub_e (qsub_e (qsub_n (qsub_n qsub_nil))))))), (lX13_layAll_17 _ n _ _ _ _ _).trans hr0⟩
    · cases hr0) (sX13_layAll_17 h hm hx h13 (bX13_layAll_88 h hm hx ih) (bX13_layAll_42 h hm hx ih))
noncomputable def tX13_layAll_13 (j9 : qT (Int32 × qM)) (j17 : qT (Int32 × qM)) : qT (Int32 × qM) :=
  oLi 3 (oLt (oInc 2 (-1 : Int32) (j9)) (oC (.int (0 : Int32)) (oSi 4 (j17))))
noncomputable def wX13_layAll_9 (k : Int32 → Int32 → qM → Option (Int32 × qM)) : qT (Int32 × qM) := fun lo st m => match lo, st with
  | [some (.ref 98), some (.int a1), some (.int a2), _, _, _, _], [] => k a1 a2 m
  | _, _ => none
set_option maxRecDepth 20000 in
theorem sX13_layAll_13 {C : qCx} {w : qWp} (h : qOk C w RX13 cX13_layAll 7 4 155 155) (hm : qMt C (some .int)) (hx : qNx C) {j9 : qT (Int32 × qM)} {j17 : qT (Int32 × qM)} (k9 : qSnd C w 7 155 (qQf C w 155 155 jI) qfin 155 14 j9) (k17 : qSnd C w 7 155 (qQf C w 155 155 jI) qfin 155 28 j17) : qSnd C w 7 155 (qQf C w 155 155 jI) qfin 155 21 (tX13_layAll_13 j9 j17) :=
  cLi (pc := 21) h dX13_layAll_21 rfl (jLt (pc := 22) h dX13_layAll_22 rfl (cInc (pc := 171) h dX13_layAll_171 rfl (jGo (pc := 174) h dX13_layAll_174 rfl (k9))) (cC (pc := 25) h dX13_layAll_25 rfl (cSI (pc := 26) h dX13_layAll_26 (k17))))
set_option maxRecDepth 20000 in
theorem lX13_layAll_13 (k9 : Int32 → Int32 → qM → Option (Int32 × qM)) (n : Nat) (a1 : Int32) (a2 : Int32) (a3 : Int32) (m : qM) : tX13_layAll_13 (wX13_layAll_9 k9) (wX13_layAll_17 (fX13_layAll_17 (fX13_layAll_13 k9 n) FU)) [some (.ref 98), some (.int a1), some (.int a2), some (.int a3), none, none, none] [] m = fX13_layAll_13 k9 (n + 1) a1 a2 a3 m := rfl
theorem bX13_layAll_13 {C : qCx} {w : qWp} (h : qOk C w RX13 cX13_layAll 7 4 155 155) (hm : qMt C (some .int)) (hx : qNx C) {k9 : Int32 → Int32 → qM → Option (Int32 × qM)} (h9 : qSnd C w 7 155 (qQf C w 155 155 jI) qfin 155 14 (wX13_layAll_9 k9)) : ∀ n : Nat, qSnd C w 7 155 (qQf C w 155 155 jI) qfin 155 21 (wX13_layAll_13 (fX13_layAll_13 k9 n))
  | 0 => qSnd_of0 (fun lo st m x hr0 => by
    unfold wX13_layAll_13 at hr0
    split at hr0
    · cases hr0
    · cases hr0)
  | n + 1 => by
    have ih := bX13_layAll_13 h hm hx h9 n
    exact qSnd_of (fun lo st m x hr0 => by
    unfold wX13_layAll_13 at hr0
    split at hr0
    · exact ⟨_, (qsub_e (qsub_e (qsub_e (qsub_e (qsub_n (qsub_n (qsub_n qsub_nil))))))), (lX13_layAll_13 _ n _ _ _ _).trans hr0⟩
    · cases hr0) (sX13_layAll_13 h hm hx h9 (bX13_layAll_17 h hm hx ih FU))
noncomputable def tX13_layAll_9 (j13 : qT (Int32 × qM)) : qT (Int32 × qM) :=
  oLi 2 (oLt (oLi 1 (eI)) (oC (.int (9 : Int32)) (oSi 3 (j13))))
set_option maxRecDepth 20000 in
theorem sX13_layAll_9 {C : qCx} {w : qWp} (h : qOk C w RX13 cX13_layAll 7 4 155 155) (hm : qMt C (some .int)) (hx : qNx C) {j13 : qT (Int32 × qM)} (k13 : qSnd C w 7 155 (qQf C w 155 155 jI) qfin 155 21 j13) : qSnd C w 7 155 (qQf C w 155 155 jI) qfin 155 14 (tX13_layAll_9 j13) :=
  cLi (pc := 14) h dX13_layAll_14 rfl (jLt (pc := 15) h dX13_layAll_15 rfl (cLi (pc := 177) h dX13_layAll_177 rfl (zI (pc := 178) h hm (Nat.le_refl _) dX13_layAll_178)) (cB (pc := 18) h dX13_layAll_18 rfl (cSi (pc := 20) h dX13_layAll_20 rfl (k13))))
set_option maxRecDepth 20000 in
theorem lX13_layAll_9 (n : Nat) (a1 : Int32) (a2 : Int32) (m : qM) : tX13_layAll_9 (wX13_layAll_13 (fX13_layAll_13 (fX13_layAll_9 n) FU)) [some (.ref 98), some (.int a1), some (.int a2), none, none, none, none] [] m = fX13_layAll_9 (n + 1) a1 a2 m := rfl
theorem bX13_layAll_9 {C : qCx} {w : qWp} (h : qOk C w RX13 cX13_layAll 7 4 155 155) (hm : qMt C (some .int)) (hx : qNx C) : ∀ n : Nat, qSnd C w 7 155 (qQf C w 155 155 jI) qfin 155 14 (wX13_layAll_9 (fX13_layAll_9 n))
  | 0 => qSnd_of0 (fun lo st m x hr0 => by
    unfold wX13_layAll_9 at hr0
    split at hr0
    · cases hr0
    · cases hr0)
  | n + 1 => by
    have ih := bX13_layAll_9 h hm hx n
    exact qSnd_of (fun lo st m x hr0 => by
    unfold wX13_layAll_9 at hr0
    split at hr0
    · exact ⟨_, (qsub_e (qsub_e (qsub_e (qsub_n (qsub_n (qsub_n (qsub_n qsub_nil))))))), (lX13_layAll_9 n _ _ _).trans hr0⟩
    · cases hr0) (sX13_layAll_9 h hm hx (bX13_layAll_13 h hm hx ih FU))
noncomputable def tX13_layAll_0 (j9 : qT (Int32 × qM)) : qT (Int32 × qM) :=
  oLa 0 (oGi 98 33 (oEq (oC (.int (0 : Int32)) (oSi 1 (oC (.int (1 : Int32)) (oSi 2 (j9))))) (oC (.int (-4 : Int32)) (eI))))
set_option maxRecDepth 20000 in
theorem sX13_layAll_0 {C : qCx} {w : qWp} (h : qOk C w RX13 cX13_layAll 7 4 155 155) (hm : qMt C (some .int)) (hx : qNx C) {j9 : qT (Int32 × qM)} (k9 : qSnd C w 7 155 (qQf C w 155 155 jI) qfin 155 14 j9) : qSnd C w 7 155 (qQf C w 155 155 jI) qfin 155 0 (tX13_layAll_0 j9) :=
  cLa (pc := 0) h dX13_layAll_0 rfl (gGz (pc := 1) h dX13_layAll_1 ff_X13_316_98 (Nat.le_of_ble_eq_true rfl) (Nat.le_of_ble_eq_true rfl) (jEq (pc := 4) h dX13_layAll_4 rfl (cC (pc := 10) h dX13_layAll_10 rfl (cSi (pc := 11) h dX13_layAll_11 rfl (cC (pc := 12) h dX13_layAll_12 rfl (cSi (pc := 13) h dX13_layAll_13 rfl (k9))))) (cB (pc := 7) h dX13_layAll_7 rfl (zI (pc := 9) h hm (Nat.le_refl _) dX13_layAll_9))))
set_option maxRecDepth 20000 in
theorem lX13_layAll_0 (m : qM) : tX13_layAll_0 (wX13_layAll_9 (fX13_layAll_9 FU)) [some (.ref 98), none, none, none, none, none, none] [] m = fX13_layAll_0 m := rfl
noncomputable def GX13_layAll : qG Int32 := fun av m => match av with
  | [.ref 98] => fX13_layAll m
  | _ => none
theorem spX13_layAll : qSpI yX13_layAll (.code yX13_layAll cX13_layAll 7 (some .int)) 4 qfin 155 155 1 GX13_layAll := by
  intro av m x m' hG
  unfold GX13_layAll at hG
  split at hG
  · rw [fX13_layAll_d] at hG
    exact ⟨qmeet (J := jI) (r := (x, m')) (av := [.ref 98]) (by decide +kernel) (Nat.le_of_ble_eq_true rfl) (fun C w h hm hx hn => sX13_layAll_0 h hm hx (bX13_layAll_9 h hm hx FU)) ((lX13_layAll_0 _).trans hG) (Nat.le_of_ble_eq_true rfl), Or.inl ⟨98, _, 13, _, _, rfl, by decide, rfl, qCk_13, rfl⟩⟩
  · cases hG
theorem ml_X13_382 : Jvm.Cond.methodLink RX13 382 yJ9_min_7cf53 ∈ qTw := qm8 (List.mem_of_getElem? (i := 190) (by decide +kernel)) (by decide +kernel)
theorem kd_X13_382 {C : qCx} {w : qWp} {cc : ByteArray} {nL dp n0 n1 pc : Nat} (h : qOk C w RX13 cc nL dp n0 n1) (d : decode cc pc = .ok (.invokestatic 382, 3)) : qCallOk C w nL dp n0 n1 pc 2 0 yJ9_min_7cf53 (.code yJ9_min_7cf53 cJ9_min_7cf53 2 (some .int)) := kindS h d ml_X13_382 im_J9_min_7cf53 in_java_lang_Math co_J9_min_7cf53 yk_J9_min_7cf53 (by decide)
theorem ml_X13_385 : Jvm.Cond.methodLink RX13 385 yJ9_max_7cf53 ∈ qTw := qm8 (List.mem_of_getElem? (i := 191) (by decide +kernel)) (by decide +kernel)
theorem kd_X13_385 {C : qCx} {w : qWp} {cc : ByteArray} {nL dp n0 n1 pc : Nat} (h : qOk C w RX13 cc nL dp n0 n1) (d : decode cc pc = .ok (.invokestatic 385, 3)) : qCallOk C w nL dp n0 n1 pc 2 0 yJ9_max_7cf53 (.code yJ9_max_7cf53 cJ9_max_7cf53 2 (some .int)) := kindS h d ml_X13_385 im_J9_max_7cf53 in_java_lang_Math co_J9_max_7cf53 yk_J9_max_7cf53 (by decide)
theorem dX13_waitsOf_0 : decode cX13_waitsOf 0 = .ok (.bipush 20, 2) := by decide +kernel
theorem dX13_waitsOf_2 : decode cX13_waitsOf 2 = .ok (.istore_n 2, 1) := by decide +kernel
theorem dX13_waitsOf_3 : decode cX13_waitsOf 3 = .ok (.iconst (-1), 1) := by decide +kernel
theorem dX13_waitsOf_4 : decode cX13_waitsOf 4 = .ok (.istore_n 3, 1) := by decide +kernel
theorem dX13_waitsOf_5 : decode cX13_waitsOf 5 = .ok (.iconst 0, 1) := by decide +kernel
theorem dX13_waitsOf_6 : decode cX13_waitsOf 6 = .ok (.istore 4, 2) := by decide +kernel
theorem dX13_waitsOf_8 : decode cX13_waitsOf 8 = .ok (.iconst 0, 1) := by decide +kernel
theorem dX13_waitsOf_9 : decode cX13_waitsOf 9 = .ok (.istore 5, 2) := by decide +kernel
theorem dX13_waitsOf_11 : decode cX13_waitsOf 11 = .ok (.iload 5, 2) := by decide +kernel
theorem dX13_waitsOf_13 : decode cX13_waitsOf 13 = .ok (.aload_n 0, 1) := by decide +kernel
theorem dX13_waitsOf_14 : decode cX13_waitsOf 14 = .ok (.getfield 313, 3) := by decide +kernel
theorem dX13_waitsOf_17 : decode cX13_waitsOf 17 = .ok (.if_icmp .ge 61, 3) := by decide +kernel
theorem dX13_waitsOf_20 : decode cX13_waitsOf 20 = .ok (.aload_n 0, 1) := by decide +kernel
theorem dX13_waitsOf_21 : decode cX13_waitsOf 21 = .ok (.getfield 215, 3) := by decide +kernel
theorem dX13_waitsOf_24 : decode cX13_waitsOf 24 = .ok (.iload 5, 2) := by decide +kernel
theorem dX13_waitsOf_26 : decode cX13_waitsOf 26 = .ok (.iaload, 1) := by decide +kernel
theorem dX13_waitsOf_27 : decode cX13_waitsOf 27 = .ok (.iload_n 1, 1) := by decide +kernel
theorem dX13_waitsOf_28 : decode cX13_waitsOf 28 = .ok (.if_icmp .ne 44, 3) := by decide +kernel
theorem dX13_waitsOf_31 : decode cX13_waitsOf 31 = .ok (.aload_n 0, 1) := by decide +kernel
theorem dX13_waitsOf_32 : decode cX13_waitsOf 32 = .ok (.getfield 221, 3) := by decide +kernel
theorem dX13_waitsOf_35 : decode cX13_waitsOf 35 = .ok (.iload 5, 2) := by decide +kernel
theorem dX13_waitsOf_37 : decode cX13_waitsOf 37 = .ok (.iaload, 1) := by decide +kernel
theorem dX13_waitsOf_38 : decode cX13_waitsOf 38 = .ok (.iconst (-1), 1) := by decide +kernel
theorem dX13_waitsOf_39 : decode cX13_waitsOf 39 = .ok (.if_icmp .ne 6, 3) := by decide +kernel
theorem dX13_waitsOf_42 : decode cX13_waitsOf 42 = .ok (.goto 30, 3) := by decide +kernel
theorem dX13_waitsOf_45 : decode cX13_waitsOf 45 = .ok (.iinc 4 1, 3) := by decide +kernel
theorem dX13_waitsOf_48 : decode cX13_waitsOf 48 = .ok (.iload_n 2, 1) := by decide +kernel
theorem dX13_waitsOf_49 : decode cX13_waitsOf 49 = .ok (.aload_n 0, 1) := by decide +kernel
theorem dX13_waitsOf_50 : decode cX13_waitsOf 50 = .ok (.getfield 221, 3) := by decide +kernel
theorem dX13_waitsOf_53 : decode cX13_waitsOf 53 = .ok (.iload 5, 2) := by decide +kernel
theorem dX13_waitsOf_55 : decode cX13_waitsOf 55 = .ok (.iaload, 1) := by decide +kernel
theorem dX13_waitsOf_56 : decode cX13_waitsOf 56 = .ok (.invokestatic 382, 3) := by decide +kernel
theorem dX13_waitsOf_59 : decode cX13_waitsOf 59 = .ok (.istore_n 2, 1) := by decide +kernel
theorem dX13_waitsOf_60 : decode cX13_waitsOf 60 = .ok (.iload_n 3, 1) := by decide +kernel
theorem dX13_waitsOf_61 : decode cX13_waitsOf 61 = .ok (.aload_n 0, 1) := by decide +kernel
theorem dX13_waitsOf_62 : decode cX13_waitsOf 62 = .ok (.getfield 221, 3) := by decide +kernel
theorem dX13_waitsOf_65 : decode cX13_waitsOf 65 = .ok (.iload 5, 2) := by decide +kernel
theorem dX13_waitsOf_67 : decode cX13_waitsOf 67 = .ok (.iaload, 1) := by decide +kernel
theorem dX13_waitsOf_68 : decode cX13_waitsOf 68 = .ok (.invokestatic 385, 3) := by decide +kernel
theorem dX13_waitsOf_71 : decode cX13_waitsOf 71 = .ok (.istore_n 3, 1) := by decide +kernel
theorem dX13_waitsOf_72 : decode cX13_waitsOf 72 = .ok (.iinc 5 1, 3) := by decide +kernel
theorem dX13_waitsOf_75 : decode cX13_waitsOf 75 = .ok (.goto (-64), 3) := by decide +kernel
theorem dX13_waitsOf_78 : decode cX13_waitsOf 78 = .ok (.iload 4, 2) := by decide +kernel
theorem dX13_waitsOf_80 : decode cX13_waitsOf 80 = .ok (.ifCond .ne 7, 3) := by decide +kernel
theorem dX13_waitsOf_83 : decode cX13_waitsOf 83 = .ok (.iconst (-1), 1) := by decide +kernel
theorem dX13_waitsOf_84 : decode cX13_waitsOf 84 = .ok (.goto 11, 3) := by decide +kernel
theorem dX13_waitsOf_87 : decode cX13_waitsOf 87 = .ok (.iload_n 3, 1) := by decide +kernel
theorem dX13_waitsOf_88 : decode cX13_waitsOf 88 = .ok (.iload_n 2, 1) := by decide +kernel
theorem dX13_waitsOf_89 : decode cX13_waitsOf 89 = .ok (.isub, 1) := by decide +kernel
theorem dX13_waitsOf_90 : decode cX13_waitsOf 90 = .ok (.iconst 1, 1) := by decide +kernel
theorem dX13_waitsOf_91 : decode cX13_waitsOf 91 = .ok (.iadd, 1) := by decide +kernel
theorem dX13_waitsOf_92 : decode cX13_waitsOf 92 = .ok (.iload 4, 2) := by decide +kernel
theorem dX13_waitsOf_94 : decode cX13_waitsOf 94 = .ok (.isub, 1) := by decide +kernel
theorem dX13_waitsOf_95 : decode cX13_waitsOf 95 = .ok (.ireturn, 1) := by decide +kernel
noncomputable def tX13_waitsOf_40 (j8 : qT (Int32 × qM)) : qT (Int32 × qM) :=
  oInc 5 (1 : Int32) (j8)
noncomputable def wX13_waitsOf_40 (k : Int32 → Int32 → Int32 → Int32 → Int32 → qM → Option (Int32 × qM)) : qT (Int32 × qM) := fun lo st m => match lo, st with
  | [some (.ref 98), some (.int a1), some (.int a2), some (.int a3), some (.int a4), some (.int a5)], [] => k a1 a2 a3 a4 a5 m
  | _, _ => none
noncomputable def wX13_waitsOf_8 (k : Int32 → Int32 → Int32 → Int32 → Int32 → qM → Option (Int32 × qM)) : qT (Int32 × qM) := fun lo st m => match lo, st with
  | [some (.ref 98), some (.int a1), some (.int a2), some (.int a3), some (.int a4), some (.int a5)], [] => k a1 a2 a3 a4 a5 m
  | _, _ => none
set_option maxRecDepth 20000 in
theorem sX13_waitsOf_40 {C : qCx} {w : qWp} (h : qOk C w RX13 cX13_waitsOf 6 1 155 155) (hm : qMt C (some .int)) (hx : qNx C) {j8 : qT (Int32 × qM)} (k8 : qSnd C w 6 155 (qQf C w 155 155 jI) qfin 155 11 j8) : qSnd C w 6 155 (qQf C w 155 155 jI) qfin 155 72 (tX13_waitsOf_40 j8) :=
  cInc (pc := 72) h dX13_waitsOf_72 rfl (jGo (pc := 75) h dX13_waitsOf_75 rfl (k8))
set_option maxRecDepth 20000 in
theorem lX13_waitsOf_40 (k8 : Int32 → Int32 → Int32 → Int32 → Int32 → qM → Option (Int32 × qM)) (a1 : Int32) (a2 : Int32) (a3 : Int32) (a4 : Int32) (a5 : Int32) (m : qM) : tX13_waitsOf_40 (wX13_waitsOf_8 k8) [some (.ref 98), some (.int a1), some (.int a2), some (.int a3), some (.int a4), some (.int a5)] [] m = fX13_waitsOf_40 k8 a1 a2 a3 a4 a5 m := rfl
theorem bX13_waitsOf_40 {C : qCx} {w : qWp} (h : qOk C w RX13 cX13_waitsOf 6 1 155 155) (hm : qMt C (some .int)) (hx : qNx C) {k8 : Int32 → Int32 → Int32 → Int32 → Int32 → qM → Option (Int32 × qM)} (h8 : qSnd C w 6 155 (qQf C w 155 155 jI) qfin 155 11 (wX13_waitsOf_8 k8)) : qSnd C w 6 155 (qQf C w 155 155 jI) qfin 155 72 (wX13_waitsOf_40 (fX13_waitsOf_40 k8)) :=
  qSnd_of (fun lo st m x hr0 => by
    unfold wX13_waitsOf_40 at hr0
    split at hr0
    · exact ⟨_, (qsub_e (qsub_e (qsub_e (qsub_e (qsub_e (qsub_e qsub_nil)))))), (lX13_waitsOf_40 _ _ _ _ _ _ _).trans hr0⟩
    · cases hr0) (sX13_waitsOf_40 h hm hx h8)
noncomputable def tX13_waitsOf_8 (j53 : qT (Int32 × qM)) (j40 : qT (Int32 × qM)) : qT (Int32 × qM) :=
  oLi 5 (oLa 0 (oGi 98 32 (oCGe (oLi 4 (oEq (oC (.int (-1 : Int32)) (j53)) (oLi 3 (oLi 2 (o2 (· - ·) (oC (.int (1 : Int32)) (o2 (· + ·) (oLi 4 (o2 (· - ·) (j53)))))))))) (oLa 0 (oGf 98 34 123 (oLi 5 (oAi 123 40 (oLi 1 (oCEq (oLa 0 (oGf 98 36 125 (oLi 5 (oAi 125 40 (oC (.int (-1 : Int32)) (oCEq (j40) (oInc 4 (1 : Int32) (oLi 2 (oLa 0 (oGf 98 36 125 (oLi 5 (oAi 125 40 (oCi GJ9_min_7cf53 2 (oSi 2 (oLi 3 (oLa 0 (oGf 98 36 125 (oLi 5 (oAi 125 40 (oCi GJ9_max_7cf53 2 (oSi 3 (j40)))))))))))))))))))))) (j40))))))))))
noncomputable def wX13_waitsOf_53 (k : Int32 → qM → Option (Int32 × qM)) : qT (Int32 × qM) := fun lo st m => match lo, st with
  | [_, _, _, _, _, _], [.int s0] => k s0 m
  | _, _ => none
set_option maxRecDepth 20000 in
theorem sX13_waitsOf_8 {C : qCx} {w : qWp} (h : qOk C w RX13 cX13_waitsOf 6 1 155 155) (hm : qMt C (some .int)) (hx : qNx C) {j53 : qT (Int32 × qM)} {j40 : qT (Int32 × qM)} (k53 : qSnd C w 6 155 (qQf C w 155 155 jI) qfin 155 95 j53) (k40 : qSnd C w 6 155 (qQf C w 155 155 jI) qfin 155 72 j40) : qSnd C w 6 155 (qQf C w 155 155 jI) qfin 155 11 (tX13_waitsOf_8 j53 j40) :=
  cLI (pc := 11) h dX13_waitsOf_11 (cLa (pc := 13) h dX13_waitsOf_13 rfl (gGi (pc := 14) h dX13_waitsOf_14 ff_X13_313_98 (Nat.le_of_ble_eq_true rfl) (Nat.le_of_ble_eq_true rfl) (jCGe (pc := 17) h dX13_waitsOf_17 rfl (cLI (pc := 78) h dX13_waitsOf_78 (jNe (pc := 80) h dX13_waitsOf_80 rfl (cLi (pc := 87) h dX13_waitsOf_87 rfl (cLi (pc := 88) h dX13_waitsOf_88 rfl (aSub (pc := 89) h dX13_waitsOf_89 (cC (pc := 90) h dX13_waitsOf_90 rfl (aAdd (pc := 91) h dX13_waitsOf_91 (cLI (pc := 92) h dX13_waitsOf_92 (aSub (pc := 94) h dX13_waitsOf_94 (k53)))))))) (cC (pc := 83) h dX13_waitsOf_83 rfl (jGo (pc := 84) h dX13_waitsOf_84 rfl (k53))))) (cLa (pc := 20) h dX13_waitsOf_20 rfl (gGf (pc := 21) h dX13_waitsOf_21 ff_X13_215_98 (Nat.le_of_ble_eq_true rfl) (Nat.le_of_ble_eq_true rfl) rfl (cLI (pc := 24) h dX13_waitsOf_24 (rAi (pc := 26) h dX13_waitsOf_26 rfl (Nat.le_of_ble_eq_true rfl) (Nat.le_of_ble_eq_true rfl) (cLi (pc := 27) h dX13_waitsOf_27 rfl (jCNe (pc := 28) h dX13_waitsOf_28 rfl (k40) (cLa (pc := 31) h dX13_waitsOf_31 rfl (gGf (pc := 32) h dX13_waitsOf_32 ff_X13_221_98 (Nat.le_of_ble_eq_true rfl) (Nat.le_of_ble_eq_true rfl) rfl (cLI (pc := 35) h dX13_waitsOf_35 (rAi (pc := 37) h dX13_waitsOf_37 rfl (Nat.le_of_ble_eq_true rfl) (Nat.le_of_ble_eq_true rfl) (cC (pc := 38) h dX13_waitsOf_38 rfl (jCNe (pc := 39) h dX13_waitsOf_39 rfl (cInc (pc := 45) h dX13_waitsOf_45 rfl (cLi (pc := 48) h dX13_waitsOf_48 rfl (cLa (pc := 49) h dX13_waitsOf_49 rfl (gGf (pc := 50) h dX13_waitsOf_50 ff_X13_221_98 (Nat.le_of_ble_eq_true rfl) (Nat.le_of_ble_eq_true rfl) rfl (cLI (pc := 53) h dX13_waitsOf_53 (rAi (pc := 55) h dX13_waitsOf_55 rfl (Nat.le_of_ble_eq_true rfl) (Nat.le_of_ble_eq_true rfl) (kCi (pc := 56) h (kd_X13_382 h dX13_waitsOf_56) spJ9_min_7cf53 (by decide) (by decide) (by decide) (by decide) (cSi (pc := 59) h dX13_waitsOf_59 rfl (cLi (pc := 60) h dX13_waitsOf_60 rfl (cLa (pc := 61) h dX13_waitsOf_61 rfl (gGf (pc := 62) h dX13_waitsOf_62 ff_X13_221_98 (Nat.le_of_ble_eq_true rfl) (Nat.le_of_ble_eq_true rfl) rfl (cLI (pc := 65) h dX13_waitsOf_65 (rAi (pc := 67) h dX13_waitsOf_67 rfl (Nat.le_of_ble_eq_true rfl) (Nat.le_of_ble_eq_true rfl) (kCi (pc := 68) h (kd_X13_385 h dX13_waitsOf_68) spJ9_max_7cf53 (by decide) (by decide) (by decide) (by decide) (cSi (pc := 71) h dX13_waitsOf_71 rfl (k40)))))))))))))))) (jGo (pc := 42) h dX13_waitsOf_42 rfl (k40)))))))))))))))))
set_option maxRecDepth 20000 in
theorem lX13_waitsOf_8 (k53 : Int32 → qM → Option (Int32 × qM)) (n : Nat) (a1 : Int32) (a2 : Int32) (a3 : Int32) (a4 : Int32) (a5 : Int32) (m : qM) : tX13_waitsOf_8 (wX13_waitsOf_53 k53) (wX13_waitsOf_40 (fX13_waitsOf_40 (fX13_waitsOf_8 k53 n))) [some (.ref 98), some (.int a1), some (.int a2), some (.int a3), some (.int a4), some (.int a5)] [] m = fX13_waitsOf_8 k53 (n + 1) a1 a2 a3 a4 a5 m := rfl
theorem bX13_waitsOf_8 {C : qCx} {w : qWp} (h : qOk C w RX13 cX13_waitsOf 6 1 155 155) (hm : qMt C (some .int)) (hx : qNx C) {k53 : Int32 → qM → Option (Int32 × qM)} (h53 : qSnd C w 6 155 (qQf C w 155 155 jI) qfin 155 95 (wX13_waitsOf_53 k53)) : ∀ n : Nat, qSnd C w 6 155 (qQf C w 155 155 jI) qfin 155 11 (wX13_waitsOf_8 (fX13_waitsOf_8 k53 n))
  | 0 => qSnd_of0 (fun lo st m x hr0 => by
    unfold wX13_waitsOf_8 at hr0
    split at hr0
    · cases hr0
    · cases hr0)
  | n + 1 => by
    have ih := bX13_waitsOf_8 h hm hx h53 n
    exact qSnd_of (fun lo st m x hr0 => by
    unfold wX13_waitsOf_8 at hr0
    split at hr0
    · exact ⟨_, (qsub_e (qsub_e (qsub_e (qsub_e (qsub_e (qsub_e qsub_nil)))))), (lX13_waitsOf_8 _ n _ _ _ _ _ _).trans hr0⟩
    · cases hr0) (sX13_waitsOf_8 h hm hx h53 (bX13_waitsOf_40 h hm hx ih))
noncomputable def tX13_waitsOf_53 : qT (Int32 × qM) :=
  eI
set_option maxRecDepth 20000 in
theorem sX13_waitsOf_53 {C : qCx} {w : qWp} (h : qOk C w RX13 cX13_waitsOf 6 1 155 155) (hm : qMt C (some .int)) (hx : qNx C) : qSnd C w 6 155 (qQf C w 155 155 jI) qfin 155 95 (tX13_waitsOf_53) :=
  zI (pc := 95) h hm (Nat.le_refl _) dX13_waitsOf_95
set_option maxRecDepth 20000 in
theorem lX13_waitsOf_53 (s0 : Int32) (m : qM) : tX13_waitsOf_53 [none, none, none, none, none, none] [(.int s0)] m = fX13_waitsOf_53 s0 m := rfl
theorem bX13_waitsOf_53 {C : qCx} {w : qWp} (h : qOk C w RX13 cX13_waitsOf 6 1 155 155) (hm : qMt C (some .int)) (hx : qNx C) : qSnd C w 6 155 (qQf C w 155 155 jI) qfin 155 95 (wX13_waitsOf_53 fX13_waitsOf_53) :=
  qSnd_of (fun lo st m x hr0 => by
    unfold wX13_waitsOf_53 at hr0
    split at hr0
    · exact ⟨_, (qsub_n (qsub_n (qsub_n (qsub_n (qsub_n (qsub_n qsub_nil)))))), (lX13_waitsOf_53 _ _).trans hr0⟩
    · cases hr0) (sX13_waitsOf_53 h hm hx)
noncomputable def tX13_waitsOf_0 (j8 : qT (Int32 × qM)) : qT (Int32 × qM) :=
  oC (.int (20 : Int32)) (oSi 2 (oC (.int (-1 : Int32)) (oSi 3 (oC (.int (0 : Int32)) (oSi 4 (oC (.int (0 : Int32)) (oSi 5 (j8))))))))
set_option maxRecDepth 20000 in
theorem sX13_waitsOf_0 {C : qCx} {w : qWp} (h : qOk C w RX13 cX13_waitsOf 6 1 155 155) (hm : qMt C (some .int)) (hx : qNx C) {j8 : qT (Int32 × qM)} (k8 : qSnd C w 6 155 (qQf C w 155 155 jI) qfin 155 11 j8) : qSnd C w 6 155 (qQf C w 155 155 jI) qfin 155 0 (tX13_waitsOf_0 j8) :=
  cB (pc := 0) h dX13_waitsOf_0 rfl (cSi (pc := 2) h dX13_waitsOf_2 rfl (cC (pc := 3) h dX13_waitsOf_3 rfl (cSi (pc := 4) h dX13_waitsOf_4 rfl (cC (pc := 5) h dX13_waitsOf_5 rfl (cSI (pc := 6) h dX13_waitsOf_6 (cC (pc := 8) h dX13_waitsOf_8 rfl (cSI (pc := 9) h dX13_waitsOf_9 (k8))))))))
set_option maxRecDepth 20000 in
theorem lX13_waitsOf_0 (a1 : Int32) (m : qM) : tX13_waitsOf_0 (wX13_waitsOf_8 (fX13_waitsOf_8 fX13_waitsOf_53 FU)) [some (.ref 98), some (.int a1), none, none, none, none] [] m = fX13_waitsOf_0 a1 m := rfl
noncomputable def GX13_waitsOf : qG Int32 := fun av m => match av with
  | [.ref 98, .int a1] => fX13_waitsOf a1 m
  | _ => none
theorem spX13_waitsOf : qSpI yX13_waitsOf (.code yX13_waitsOf cX13_waitsOf 6 (some .int)) 1 qfin 155 155 1 GX13_waitsOf := by
  intro av m x m' hG
  unfold GX13_waitsOf at hG
  split at hG
  · rename_i a1
    rw [fX13_waitsOf_d] at hG
    exact ⟨qmeet (J := jI) (r := (x, m')) (av := [.ref 98, .int a1]) (by decide +kernel) (Nat.le_of_ble_eq_true rfl) (fun C w h hm hx hn => sX13_waitsOf_0 h hm hx (bX13_waitsOf_8 h hm hx (bX13_waitsOf_53 h hm hx) FU)) ((lX13_waitsOf_0 _ _).trans hG) (Nat.le_of_ble_eq_true rfl), Or.inl ⟨98, _, 13, _, _, rfl, by decide, rfl, qCk_13, rfl⟩⟩
  · cases hG
theorem im_X13_waitsOf : Jvm.Cond.instanceMethod yX13_waitsOf ∈ qTw := qm8 (List.mem_of_getElem? (i := 188) (by decide +kernel)) (by decide +kernel)
theorem se_X13_waitsOf : Jvm.Cond.selects yX13_waitsOf.cls yX13_waitsOf yX13_waitsOf ∈ qTw := List.mem_filter.mpr ⟨List.mem_append_left _ (List.mem_of_getElem? (i := 58) (by decide +kernel)), rfl⟩
theorem co_X13_waitsOf : Jvm.Cond.code yX13_waitsOf cX13_waitsOf 6 (some .int) ∈ qTw := qm8 (List.mem_of_getElem? (i := 189) (by decide +kernel)) (by decide +kernel)
theorem yk_X13_waitsOf : qYk yX13_waitsOf 1 := ⟨⟨by decide +kernel, by decide +kernel⟩, by decide +kernel⟩
theorem ml_X13_388 : Jvm.Cond.methodLink RX13 388 yX13_waitsOf ∈ qTw := qm8 (List.mem_of_getElem? (i := 186) (by decide +kernel)) (by decide +kernel)
theorem kd_X13_388 {C : qCx} {w : qWp} {cc : ByteArray} {nL dp n0 n1 pc : Nat} (h : qOk C w RX13 cc nL dp n0 n1) (d : decode cc pc = .ok (.invokevirtual 388, 3)) : qCallOk C w nL dp n0 n1 pc 2 1 yX13_waitsOf (.code yX13_waitsOf cX13_waitsOf 6 (some .int)) := kindV h d ml_X13_388 im_X13_waitsOf se_X13_waitsOf in_ParentEveModel co_X13_waitsOf yk_X13_waitsOf (by decide)
theorem dX13_valueOf_0 : decode cX13_valueOf 0 = .ok (.iconst 0, 1) := by decide +kernel
theorem dX13_valueOf_1 : decode cX13_valueOf 1 = .ok (.istore_n 2, 1) := by decide +kernel
theorem dX13_valueOf_2 : decode cX13_valueOf 2 = .ok (.iconst 0, 1) := by decide +kernel
theorem dX13_valueOf_3 : decode cX13_valueOf 3 = .ok (.istore_n 3, 1) := by decide +kernel
theorem dX13_valueOf_4 : decode cX13_valueOf 4 = .ok (.iload_n 3, 1) := by decide +kernel
theorem dX13_valueOf_5 : decode cX13_valueOf 5 = .ok (.bipush 15, 2) := by decide +kernel
theorem dX13_valueOf_7 : decode cX13_valueOf 7 = .ok (.if_icmp .ge 26, 3) := by decide +kernel
theorem dX13_valueOf_10 : decode cX13_valueOf 10 = .ok (.iload_n 1, 1) := by decide +kernel
theorem dX13_valueOf_11 : decode cX13_valueOf 11 = .ok (.iconst 2, 1) := by decide +kernel
theorem dX13_valueOf_12 : decode cX13_valueOf 12 = .ok (.if_icmp .ne 21, 3) := by decide +kernel
theorem dX13_valueOf_15 : decode cX13_valueOf 15 = .ok (.iload_n 2, 1) := by decide +kernel
theorem dX13_valueOf_16 : decode cX13_valueOf 16 = .ok (.iconst 0, 1) := by decide +kernel
theorem dX13_valueOf_17 : decode cX13_valueOf 17 = .ok (.aload_n 0, 1) := by decide +kernel
theorem dX13_valueOf_18 : decode cX13_valueOf 18 = .ok (.iload_n 3, 1) := by decide +kernel
theorem dX13_valueOf_19 : decode cX13_valueOf 19 = .ok (.invokevirtual 388, 3) := by decide +kernel
theorem dX13_valueOf_22 : decode cX13_valueOf 22 = .ok (.invokestatic 385, 3) := by decide +kernel
theorem dX13_valueOf_25 : decode cX13_valueOf 25 = .ok (.iadd, 1) := by decide +kernel
theorem dX13_valueOf_26 : decode cX13_valueOf 26 = .ok (.istore_n 2, 1) := by decide +kernel
theorem dX13_valueOf_27 : decode cX13_valueOf 27 = .ok (.iinc 3 1, 3) := by decide +kernel
theorem dX13_valueOf_30 : decode cX13_valueOf 30 = .ok (.goto (-26), 3) := by decide +kernel
theorem dX13_valueOf_33 : decode cX13_valueOf 33 = .ok (.iconst 0, 1) := by decide +kernel
theorem dX13_valueOf_34 : decode cX13_valueOf 34 = .ok (.istore_n 3, 1) := by decide +kernel
theorem dX13_valueOf_35 : decode cX13_valueOf 35 = .ok (.iload_n 3, 1) := by decide +kernel
theorem dX13_valueOf_36 : decode cX13_valueOf 36 = .ok (.aload_n 0, 1) := by decide +kernel
theorem dX13_valueOf_37 : decode cX13_valueOf 37 = .ok (.getfield 313, 3) := by decide +kernel
theorem dX13_valueOf_40 : decode cX13_valueOf 40 = .ok (.if_icmp .ge 110, 3) := by decide +kernel
theorem dX13_valueOf_43 : decode cX13_valueOf 43 = .ok (.iload_n 1, 1) := by decide +kernel
theorem dX13_valueOf_44 : decode cX13_valueOf 44 = .ok (.iconst 2, 1) := by decide +kernel
theorem dX13_valueOf_45 : decode cX13_valueOf 45 = .ok (.if_icmp .eq 105, 3) := by decide +kernel
theorem dX13_valueOf_48 : decode cX13_valueOf 48 = .ok (.aload_n 0, 1) := by decide +kernel
theorem dX13_valueOf_49 : decode cX13_valueOf 49 = .ok (.getfield 221, 3) := by decide +kernel
theorem dX13_valueOf_52 : decode cX13_valueOf 52 = .ok (.iload_n 3, 1) := by decide +kernel
theorem dX13_valueOf_53 : decode cX13_valueOf 53 = .ok (.iaload, 1) := by decide +kernel
theorem dX13_valueOf_54 : decode cX13_valueOf 54 = .ok (.iconst (-1), 1) := by decide +kernel
theorem dX13_valueOf_55 : decode cX13_valueOf 55 = .ok (.if_icmp .ne 6, 3) := by decide +kernel
theorem dX13_valueOf_58 : decode cX13_valueOf 58 = .ok (.goto 86, 3) := by decide +kernel
theorem dX13_valueOf_61 : decode cX13_valueOf 61 = .ok (.aload_n 0, 1) := by decide +kernel
theorem dX13_valueOf_62 : decode cX13_valueOf 62 = .ok (.getfield 215, 3) := by decide +kernel
theorem dX13_valueOf_65 : decode cX13_valueOf 65 = .ok (.iload_n 3, 1) := by decide +kernel
theorem dX13_valueOf_66 : decode cX13_valueOf 66 = .ok (.iaload, 1) := by decide +kernel
theorem dX13_valueOf_67 : decode cX13_valueOf 67 = .ok (.istore 4, 2) := by decide +kernel
theorem dX13_valueOf_69 : decode cX13_valueOf 69 = .ok (.iload_n 2, 1) := by decide +kernel
theorem dX13_valueOf_70 : decode cX13_valueOf 70 = .ok (.iload_n 1, 1) := by decide +kernel
theorem dX13_valueOf_71 : decode cX13_valueOf 71 = .ok (.ifCond .ne 20, 3) := by decide +kernel
theorem dX13_valueOf_74 : decode cX13_valueOf 74 = .ok (.aload_n 0, 1) := by decide +kernel
theorem dX13_valueOf_75 : decode cX13_valueOf 75 = .ok (.getfield 223, 3) := by decide +kernel
theorem dX13_valueOf_78 : decode cX13_valueOf 78 = .ok (.iload_n 3, 1) := by decide +kernel
theorem dX13_valueOf_79 : decode cX13_valueOf 79 = .ok (.baload, 1) := by decide +kernel
theorem dX13_valueOf_80 : decode cX13_valueOf 80 = .ok (.ifCond .eq 7, 3) := by decide +kernel
theorem dX13_valueOf_83 : decode cX13_valueOf 83 = .ok (.iconst 1, 1) := by decide +kernel
theorem dX13_valueOf_84 : decode cX13_valueOf 84 = .ok (.goto 58, 3) := by decide +kernel
theorem dX13_valueOf_87 : decode cX13_valueOf 87 = .ok (.iconst 0, 1) := by decide +kernel
theorem dX13_valueOf_88 : decode cX13_valueOf 88 = .ok (.goto 54, 3) := by decide +kernel
theorem dX13_valueOf_91 : decode cX13_valueOf 91 = .ok (.iload_n 1, 1) := by decide +kernel
theorem dX13_valueOf_92 : decode cX13_valueOf 92 = .ok (.iconst 1, 1) := by decide +kernel
theorem dX13_valueOf_93 : decode cX13_valueOf 93 = .ok (.if_icmp .ne 7, 3) := by decide +kernel
theorem dX13_valueOf_96 : decode cX13_valueOf 96 = .ok (.iconst 1, 1) := by decide +kernel
theorem dX13_valueOf_97 : decode cX13_valueOf 97 = .ok (.goto 45, 3) := by decide +kernel
theorem dX13_valueOf_100 : decode cX13_valueOf 100 = .ok (.aload_n 0, 1) := by decide +kernel
theorem dX13_valueOf_101 : decode cX13_valueOf 101 = .ok (.getfield 221, 3) := by decide +kernel
theorem dX13_valueOf_104 : decode cX13_valueOf 104 = .ok (.iload_n 3, 1) := by decide +kernel
theorem dX13_valueOf_105 : decode cX13_valueOf 105 = .ok (.iaload, 1) := by decide +kernel
theorem dX13_valueOf_106 : decode cX13_valueOf 106 = .ok (.i2l, 1) := by decide +kernel
theorem dX13_valueOf_107 : decode cX13_valueOf 107 = .ok (.aload_n 0, 1) := by decide +kernel
theorem dX13_valueOf_108 : decode cX13_valueOf 108 = .ok (.getfield 203, 3) := by decide +kernel
theorem dX13_valueOf_111 : decode cX13_valueOf 111 = .ok (.iload 4, 2) := by decide +kernel
theorem dX13_valueOf_113 : decode cX13_valueOf 113 = .ok (.iaload, 1) := by decide +kernel
theorem dX13_valueOf_114 : decode cX13_valueOf 114 = .ok (.i2l, 1) := by decide +kernel
theorem dX13_valueOf_115 : decode cX13_valueOf 115 = .ok (.aload_n 0, 1) := by decide +kernel
theorem dX13_valueOf_116 : decode cX13_valueOf 116 = .ok (.getfield 206, 3) := by decide +kernel
theorem dX13_valueOf_119 : decode cX13_valueOf 119 = .ok (.iload 4, 2) := by decide +kernel
theorem dX13_valueOf_121 : decode cX13_valueOf 121 = .ok (.iaload, 1) := by decide +kernel
theorem dX13_valueOf_122 : decode cX13_valueOf 122 = .ok (.i2l, 1) := by decide +kernel
theorem dX13_valueOf_123 : decode cX13_valueOf 123 = .ok (.invokestatic 66, 3) := by decide +kernel
theorem dX13_valueOf_126 : decode cX13_valueOf 126 = .ok (.ifCond .eq 15, 3) := by decide +kernel
theorem dX13_valueOf_129 : decode cX13_valueOf 129 = .ok (.iconst 1, 1) := by decide +kernel
theorem dX13_valueOf_130 : decode cX13_valueOf 130 = .ok (.aload_n 0, 1) := by decide +kernel
theorem dX13_valueOf_131 : decode cX13_valueOf 131 = .ok (.getfield 209, 3) := by decide +kernel
theorem dX13_valueOf_134 : decode cX13_valueOf 134 = .ok (.iload 4, 2) := by decide +kernel
theorem dX13_valueOf_136 : decode cX13_valueOf 136 = .ok (.iaload, 1) := by decide +kernel
theorem dX13_valueOf_137 : decode cX13_valueOf 137 = .ok (.iadd, 1) := by decide +kernel
theorem dX13_valueOf_138 : decode cX13_valueOf 138 = .ok (.goto 4, 3) := by decide +kernel
theorem dX13_valueOf_141 : decode cX13_valueOf 141 = .ok (.iconst 0, 1) := by decide +kernel
theorem dX13_valueOf_142 : decode cX13_valueOf 142 = .ok (.iadd, 1) := by decide +kernel
theorem dX13_valueOf_143 : decode cX13_valueOf 143 = .ok (.istore_n 2, 1) := by decide +kernel
theorem dX13_valueOf_144 : decode cX13_valueOf 144 = .ok (.iinc 3 1, 3) := by decide +kernel
theorem dX13_valueOf_147 : decode cX13_valueOf 147 = .ok (.goto (-112), 3) := by decide +kernel
theorem dX13_valueOf_150 : decode cX13_valueOf 150 = .ok (.iload_n 2, 1) := by decide +kernel
theorem dX13_valueOf_151 : decode cX13_valueOf 151 = .ok (.ireturn, 1) := by decide +kernel
noncomputable def tX13_valueOf_4 (j20 : qT (Int32 × qM)) (j4 : qT (Int32 × qM)) : qT (Int32 × qM) :=
  oLi 3 (oC (.int (15 : Int32)) (oCGe (j20) (oLi 1 (oC (.int (2 : Int32)) (oCEq (oLi 2 (oC (.int (0 : Int32)) (oLa 0 (oLi 3 (oCi GX13_waitsOf 2 (oCi GJ9_max_7cf53 2 (o2 (· + ·) (oSi 2 (oInc 3 (1 : Int32) (j4)))))))))) (j20))))))
noncomputable def wX13_valueOf_4 (k : Int32 → Int32 → Int32 → qM → Option (Int32 × qM)) : qT (Int32 × qM) := fun lo st m => match lo, st with
  | [some (.ref 98), some (.int a1), some (.int a2), some (.int a3), _], [] => k a1 a2 a3 m
  | _, _ => none
noncomputable def wX13_valueOf_20 (k : Int32 → Int32 → qM → Option (Int32 × qM)) : qT (Int32 × qM) := fun lo st m => match lo, st with
  | [some (.ref 98), some (.int a1), some (.int a2), _, _], [] => k a1 a2 m
  | _, _ => none
set_option maxRecDepth 20000 in
theorem sX13_valueOf_4 {C : qCx} {w : qWp} (h : qOk C w RX13 cX13_valueOf 5 2 155 155) (hm : qMt C (some .int)) (hx : qNx C) {j20 : qT (Int32 × qM)} {j4 : qT (Int32 × qM)} (k20 : qSnd C w 5 155 (qQf C w 155 155 jI) qfin 155 33 j20) (k4 : qSnd C w 5 155 (qQf C w 155 155 jI) qfin 155 4 j4) : qSnd C w 5 155 (qQf C w 155 155 jI) qfin 155 4 (tX13_valueOf_4 j20 j4) :=
  cLi (pc := 4) h dX13_valueOf_4 rfl (cB (pc := 5) h dX13_valueOf_5 rfl (jCGe (pc := 7) h dX13_valueOf_7 rfl (k20) (cLi (pc := 10) h dX13_valueOf_10 rfl (cC (pc := 11) h dX13_valueOf_11 rfl (jCNe (pc := 12) h dX13_valueOf_12 rfl (k20) (cLi (pc := 15) h dX13_valueOf_15 rfl (cC (pc := 16) h dX13_valueOf_16 rfl (cLa (pc := 17) h dX13_valueOf_17 rfl (cLi (pc := 18) h dX13_valueOf_18 rfl (kCi (pc := 19) h (kd_X13_388 h dX13_valueOf_19) spX13_waitsOf (by decide) (by decide) (by decide) (by decide) (kCi (pc := 22) h (kd_X13_385 h dX13_valueOf_22) spJ9_max_7cf53 (by decide) (by decide) (by decide) (by decide) (aAdd (pc := 25) h dX13_valueOf_25 (cSi (pc := 26) h dX13_valueOf_26 rfl (cInc (pc := 27) h dX13_valueOf_27 rfl (jGo (pc := 30) h dX13_valueOf_30 rfl (k4))))))))))))))))
set_option maxRecDepth 20000 in
theorem lX13_valueOf_4 (k20 : Int32 → Int32 → qM → Option (Int32 × qM)) (n : Nat) (a1 : Int32) (a2 : Int32) (a3 : Int32) (m : qM) : tX13_valueOf_4 (wX13_valueOf_20 k20) (wX13_valueOf_4 ((fX13_valueOf_4 k20 n))) [some (.ref 98), some (.int a1), some (.int a2), some (.int a3), none] [] m = fX13_valueOf_4 k20 (n + 1) a1 a2 a3 m := rfl
theorem bX13_valueOf_4 {C : qCx} {w : qWp} (h : qOk C w RX13 cX13_valueOf 5 2 155 155) (hm : qMt C (some .int)) (hx : qNx C) {k20 : Int32 → Int32 → qM → Option (Int32 × qM)} (h20 : qSnd C w 5 155 (qQf C w 155 155 jI) qfin 155 33 (wX13_valueOf_20 k20)) : ∀ n : Nat, qSnd C w 5 155 (qQf C w 155 155 jI) qfin 155 4 (wX13_valueOf_4 (fX13_valueOf_4 k20 n))
  | 0 => qSnd_of0 (fun lo st m x hr0 => by
    unfold wX13_valueOf_4 at hr0
    split at hr0
    · cases hr0
    · cases hr0)
  | n + 1 => by
    have ih := bX13_valueOf_4 h hm hx h20 n
    exact qSnd_of (fun lo st m x hr0 => by
    unfold wX13_valueOf_4 at hr0
    split at hr0
    · exact ⟨_, (qsub_e (qsub_e (qsub_e (qsub_e (qsub_n qsub_nil))))), (lX13_valueOf_4 _ n _ _ _ _).trans hr0⟩
    · cases hr0) (sX13_valueOf_4 h hm hx h20 ih)
noncomputable def tX13_valueOf_85 (j22 : qT (Int32 × qM)) : qT (Int32 × qM) :=
  oInc 3 (1 : Int32) (j22)
noncomputable def wX13_valueOf_85 (k : Int32 → Int32 → Int32 → qM → Option (Int32 × qM)) : qT (Int32 × qM) := fun lo st m => match lo, st with
  | [some (.ref 98), some (.int a1), some (.int a2), some (.int a3), _], [] => k a1 a2 a3 m
  | _, _ => none
noncomputable def wX13_valueOf_22 (k : Int32 → Int32 → Int32 → qM → Option (Int32 × qM)) : qT (Int32 × qM) := fun lo st m => match lo, st with
  | [some (.ref 98), some (.int a1), some (.int a2), some (.int a3), _], [] => k a1 a2 a3 m
  | _, _ => none
set_option maxRecDepth 20000 in
theorem sX13_valueOf_85 {C : qCx} {w : qWp} (h : qOk C w RX13 cX13_valueOf 5 2 155 155) (hm : qMt C (some .int)) (hx : qNx C) {j22 : qT (Int32 × qM)} (k22 : qSnd C w 5 155 (qQf C w 155 155 jI) qfin 155 35 j22) : qSnd C w 5 155 (qQf C w 155 155 jI) qfin 155 144 (tX13_valueOf_85 j22) :=
  cInc (pc := 144) h dX13_valueOf_144 rfl (jGo (pc := 147) h dX13_valueOf_147 rfl (k22))
set_option maxRecDepth 20000 in
theorem lX13_valueOf_85 (k22 : Int32 → Int32 → Int32 → qM → Option (Int32 × qM)) (a1 : Int32) (a2 : Int32) (a3 : Int32) (m : qM) : tX13_valueOf_85 (wX13_valueOf_22 k22) [some (.ref 98), some (.int a1), some (.int a2), some (.int a3), none] [] m = fX13_valueOf_85 k22 a1 a2 a3 m := rfl
theorem bX13_valueOf_85 {C : qCx} {w : qWp} (h : qOk C w RX13 cX13_valueOf 5 2 155 155) (hm : qMt C (some .int)) (hx : qNx C) {k22 : Int32 → Int32 → Int32 → qM → Option (Int32 × qM)} (h22 : qSnd C w 5 155 (qQf C w 155 155 jI) qfin 155 35 (wX13_valueOf_22 k22)) : qSnd C w 5 155 (qQf C w 155 155 jI) qfin 155 144 (wX13_valueOf_85 (fX13_valueOf_85 k22)) :=
  qSnd_of (fun lo st m x hr0 => by
    unfold wX13_valueOf_85 at hr0
    split at hr0
    · exact ⟨_, (qsub_e (qsub_e (qsub_e (qsub_e (qsub_n qsub_nil))))), (lX13_valueOf_85 _ _ _ _ _).trans hr0⟩
    · cases hr0) (sX13_valueOf_85 h hm hx h22)
noncomputable def tX13_valueOf_83 (j85 : qT (Int32 × qM)) : qT (Int32 × qM) :=
  o2 (· + ·) (oSi 2 (j85))
noncomputable def wX13_valueOf_83 (k : Int32 → Int32 → Int32 → Int32 → qM → Option (Int32 × qM)) : qT (Int32 × qM) := fun lo st m => match lo, st with
  | [some (.ref 98), some (.int a1), _, some (.int a3), _], [.int s0, .int s1] => k a1 a3 s0 s1 m
  | _, _ => none
set_option maxRecDepth 20000 in
theorem sX13_valueOf_83 {C : qCx} {w : qWp} (h : qOk C w RX13 cX13_valueOf 5 2 155 155) (hm : qMt C (some .int)) (hx : qNx C) {j85 : qT (Int32 × qM)} (k85 : qSnd C w 5 155 (qQf C w 155 155 jI) qfin 155 144 j85) : qSnd C w 5 155 (qQf C w 155 155 jI) qfin 155 142 (tX13_valueOf_83 j85) :=
  aAdd (pc := 142) h dX13_valueOf_142 (cSi (pc := 143) h dX13_valueOf_143 rfl (k85))
set_option maxRecDepth 20000 in
theorem lX13_valueOf_83 (k22 : Int32 → Int32 → Int32 → qM → Option (Int32 × qM)) (a1 : Int32) (a3 : Int32) (s0 : Int32) (s1 : Int32) (m : qM) : tX13_valueOf_83 (wX13_valueOf_85 (fX13_valueOf_85 k22)) [some (.ref 98), some (.int a1), none, some (.int a3), none] [(.int s0), (.int s1)] m = fX13_valueOf_83 k22 a1 a3 s0 s1 m := rfl
theorem bX13_valueOf_83 {C : qCx} {w : qWp} (h : qOk C w RX13 cX13_valueOf 5 2 155 155) (hm : qMt C (some .int)) (hx : qNx C) {k22 : Int32 → Int32 → Int32 → qM → Option (Int32 × qM)} (h22 : qSnd C w 5 155 (qQf C w 155 155 jI) qfin 155 35 (wX13_valueOf_22 k22)) : qSnd C w 5 155 (qQf C w 155 155 jI) qfin 155 142 (wX13_valueOf_83 (fX13_valueOf_83 k22)) :=
  qSnd_of (fun lo st m x hr0 => by
    unfold wX13_valueOf_83 at hr0
    split at hr0
    · exact ⟨_, (qsub_e (qsub_e (qsub_n (qsub_e (qsub_n qsub_nil))))), (lX13_valueOf_83 _ _ _ _ _ _).trans hr0⟩
    · cases hr0) (sX13_valueOf_83 h hm hx (bX13_valueOf_85 h hm hx h22))
noncomputable def tX13_valueOf_22 (j87 : qT (Int32 × qM)) (j83 : qT (Int32 × qM)) (j85 : qT (Int32 × qM)) : qT (Int32 × qM) :=
  oLi 3 (oLa 0 (oGi 98 32 (oCGe (j87) (oLi 1 (oC (.int (2 : Int32)) (oCEq (j87) (oLa 0 (oGf 98 36 125 (oLi 3 (oAi 125 40 (oC (.int (-1 : Int32)) (oCEq (j85) (oLa 0 (oGf 98 34 123 (oLi 3 (oAi 123 40 (oSi 4 (oLi 2 (oLi 1 (oEq (oLa 0 (oGf 98 37 126 (oLi 3 (oAi 126 40 (oEq (oC (.int (0 : Int32)) (j83)) (oC (.int (1 : Int32)) (j83))))))) (oLi 1 (oC (.int (1 : Int32)) (oCEq (oC (.int (1 : Int32)) (j83)) (oLa 0 (oGf 98 36 125 (oLi 3 (oAi 125 40 (oI2l (oLa 0 (oGf 98 28 119 (oLi 4 (oAi 119 15 (oI2l (oLa 0 (oGf 98 29 120 (oLi 4 (oAi 120 15 (oI2l (oCi GX13_in 3 (oEq (oC (.int (0 : Int32)) (j83)) (oC (.int (1 : Int32)) (oLa 0 (oGf 98 30 121 (oLi 4 (oAi 121 15 (o2 (· + ·) (j83)))))))))))))))))))))))))))))))))))))))))))))))
noncomputable def wX13_valueOf_87 (k : Int32 → qM → Option (Int32 × qM)) : qT (Int32 × qM) := fun lo st m => match lo, st with
  | [_, _, some (.int a2), _, _], [] => k a2 m
  | _, _ => none
set_option maxRecDepth 20000 in
theorem sX13_valueOf_22 {C : qCx} {w : qWp} (h : qOk C w RX13 cX13_valueOf 5 2 155 155) (hm : qMt C (some .int)) (hx : qNx C) {j87 : qT (Int32 × qM)} {j83 : qT (Int32 × qM)} {j85 : qT (Int32 × qM)} (k87 : qSnd C w 5 155 (qQf C w 155 155 jI) qfin 155 150 j87) (k83 : qSnd C w 5 155 (qQf C w 155 155 jI) qfin 155 142 j83) (k85 : qSnd C w 5 155 (qQf C w 155 155 jI) qfin 155 144 j85) : qSnd C w 5 155 (qQf C w 155 155 jI) qfin 155 35 (tX13_valueOf_22 j87 j83 j85) :=
  cLi (pc := 35) h dX13_valueOf_35 rfl (cLa (pc := 36) h dX13_valueOf_36 rfl (gGi (pc := 37) h dX13_valueOf_37 ff_X13_313_98 (Nat.le_of_ble_eq_true rfl) (Nat.le_of_ble_eq_true rfl) (jCGe (pc := 40) h dX13_valueOf_40 rfl (k87) (cLi (pc := 43) h dX13_valueOf_43 rfl (cC (pc := 44) h dX13_valueOf_44 rfl (jCEq (pc := 45) h dX13_valueOf_45 rfl (k87) (cLa (pc := 48) h dX13_valueOf_48 rfl (gGf (pc := 49) h dX13_valueOf_49 ff_X13_221_98 (Nat.le_of_ble_eq_true rfl) (Nat.le_of_ble_eq_true rfl) rfl (cLi (pc := 52) h dX13_valueOf_52 rfl (rAi (pc := 53) h dX13_valueOf_53 rfl (Nat.le_of_ble_eq_true rfl) (Nat.le_of_ble_eq_true rfl) (cC (pc := 54) h dX13_valueOf_54 rfl (jCNe (pc := 55) h dX13_valueOf_55 rfl (cLa (pc := 61) h dX13_valueOf_61 rfl (gGf (pc := 62) h dX13_valueOf_62 ff_X13_215_98 (Nat.le_of_ble_eq_true rfl) (Nat.le_of_ble_eq_true rfl) rfl (cLi (pc := 65) h dX13_valueOf_65 rfl (rAi (pc := 66) h dX13_valueOf_66 rfl (Nat.le_of_ble_eq_true rfl) (Nat.le_of_ble_eq_true rfl) (cSI (pc := 67) h dX13_valueOf_67 (cLi (pc := 69) h dX13_valueOf_69 rfl (cLi (pc := 70) h dX13_valueOf_70 rfl (jNe (pc := 71) h dX13_valueOf_71 rfl (cLi (pc := 91) h dX13_valueOf_91 rfl (cC (pc := 92) h dX13_valueOf_92 rfl (jCNe (pc := 93) h dX13_valueOf_93 rfl (cLa (pc := 100) h dX13_valueOf_100 rfl (gGf (pc := 101) h dX13_valueOf_101 ff_X13_221_98 (Nat.le_of_ble_eq_true rfl) (Nat.le_of_ble_eq_true rfl) rfl (cLi (pc := 104) h dX13_valueOf_104 rfl (rAi (pc := 105) h dX13_valueOf_105 rfl (Nat.le_of_ble_eq_true rfl) (Nat.le_of_ble_eq_true rfl) (aI2l (pc := 106) h dX13_valueOf_106 (cLa (pc := 107) h dX13_valueOf_107 rfl (gGf (pc := 108) h dX13_valueOf_108 ff_X13_203_98 (Nat.le_of_ble_eq_true rfl) (Nat.le_of_ble_eq_true rfl) rfl (cLI (pc := 111) h dX13_valueOf_111 (rAi (pc := 113) h dX13_valueOf_113 rfl (Nat.le_of_ble_eq_true rfl) (Nat.le_of_ble_eq_true rfl) (aI2l (pc := 114) h dX13_valueOf_114 (cLa (pc := 115) h dX13_valueOf_115 rfl (gGf (pc := 116) h dX13_valueOf_116 ff_X13_206_98 (Nat.le_of_ble_eq_true rfl) (Nat.le_of_ble_eq_true rfl) rfl (cLI (pc := 119) h dX13_valueOf_119 (rAi (pc := 121) h dX13_valueOf_121 rfl (Nat.le_of_ble_eq_true rfl) (Nat.le_of_ble_eq_true rfl) (aI2l (pc := 122) h dX13_valueOf_122 (kCi (pc := 123) h (kd_X13_66 h dX13_valueOf_123) spX13_in (by decide) (by decide) (by decide) (by decide) (jEq (pc := 126) h dX13_valueOf_126 rfl (cC (pc := 141) h dX13_valueOf_141 rfl (k83)) (cC (pc := 129) h dX13_valueOf_129 rfl (cLa (pc := 130) h dX13_valueOf_130 rfl (gGf (pc := 131) h dX13_valueOf_131 ff_X13_209_98 (Nat.le_of_ble_eq_true rfl) (Nat.le_of_ble_eq_true rfl) rfl (cLI (pc := 134) h dX13_valueOf_134 (rAi (pc := 136) h dX13_valueOf_136 rfl (Nat.le_of_ble_eq_true rfl) (Nat.le_of_ble_eq_true rfl) (aAdd (pc := 137) h dX13_valueOf_137 (jGo (pc := 138) h dX13_valueOf_138 rfl (k83))))))))))))))))))))))))) (cC (pc := 96) h dX13_valueOf_96 rfl (jGo (pc := 97) h dX13_valueOf_97 rfl (k83)))))) (cLa (pc := 74) h dX13_valueOf_74 rfl (gGf (pc := 75) h dX13_valueOf_75 ff_X13_223_98 (Nat.le_of_ble_eq_true rfl) (Nat.le_of_ble_eq_true rfl) rfl (cLi (pc := 78) h dX13_valueOf_78 rfl (rAz (pc := 79) h dX13_valueOf_79 rfl (Nat.le_of_ble_eq_true rfl) (Nat.le_of_ble_eq_true rfl) (jEq (pc := 80) h dX13_valueOf_80 rfl (cC (pc := 87) h dX13_valueOf_87 rfl (jGo (pc := 88) h dX13_valueOf_88 rfl (k83))) (cC (pc := 83) h dX13_valueOf_83 rfl (jGo (pc := 84) h dX13_valueOf_84 rfl (k83)))))))))))))))) (jGo (pc := 58) h dX13_valueOf_58 rfl (k85))))))))))))))
set_option maxRecDepth 20000 in
theorem lX13_valueOf_22 (k87 : Int32 → qM → Option (Int32 × qM)) (n : Nat) (a1 : Int32) (a2 : Int32) (a3 : Int32) (m : qM) : tX13_valueOf_22 (wX13_valueOf_87 k87) (wX13_valueOf_83 (fX13_valueOf_83 (fX13_valueOf_22 k87 n))) (wX13_valueOf_85 (fX13_valueOf_85 (fX13_valueOf_22 k87 n))) [some (.ref 98), some (.int a1), some (.int a2), some (.int a3), none] [] m = fX13_valueOf_22 k87 (n + 1) a1 a2 a3 m := rfl
theorem bX13_valueOf_22 {C : qCx} {w : qWp} (h : qOk C w RX13 cX13_valueOf 5 2 155 155) (hm : qMt C (some .int)) (hx : qNx C) {k87 : Int32 → qM → Option (Int32 × qM)} (h87 : qSnd C w 5 155 (qQf C w 155 155 jI) qfin 155 150 (wX13_valueOf_87 k87)) : ∀ n : Nat, qSnd C w 5 155 (qQf C w 155 155 jI) qfin 155 35 (wX13_valueOf_22 (fX13_valueOf_22 k87 n))
  | 0 => qSnd_of0 (fun lo st m x hr0 => by
    unfold wX13_valueOf_22 at hr0
    split at hr0
    · cases hr0
    · cases hr0)
  | n + 1 => by
    have ih := bX13_valueOf_22 h hm hx h87 n
    exact qSnd_of (fun lo st m x hr0 => by
    unfold wX13_valueOf_22 at hr0
    split at hr0
    · exact ⟨_, (qsub_e (qsub_e (qsub_e (qsub_e (qsub_n qsub_nil))))), (lX13_valueOf_22 _ n _ _ _ _).trans hr0⟩
    · cases hr0) (sX13_valueOf_22 h hm hx h87 (bX13_valueOf_83 h hm hx ih) (bX13_valueOf_85 h hm hx ih))
noncomputable def tX13_valueOf_87 : qT (Int32 × qM) :=
  oLi 2 (eI)
set_option maxRecDepth 20000 in
theorem sX13_valueOf_87 {C : qCx} {w : qWp} (h : qOk C w RX13 cX13_valueOf 5 2 155 155) (hm : qMt C (some .int)) (hx : qNx C) : qSnd C w 5 155 (qQf C w 155 155 jI) qfin 155 150 (tX13_valueOf_87) :=
  cLi (pc := 150) h dX13_valueOf_150 rfl (zI (pc := 151) h hm (Nat.le_refl _) dX13_valueOf_151)
set_option maxRecDepth 20000 in
theorem lX13_valueOf_87 (a2 : Int32) (m : qM) : tX13_valueOf_87 [none, none, some (.int a2), none, none] [] m = fX13_valueOf_87 a2 m := rfl
theorem bX13_valueOf_87 {C : qCx} {w : qWp} (h : qOk C w RX13 cX13_valueOf 5 2 155 155) (hm : qMt C (some .int)) (hx : qNx C) : qSnd C w 5 155 (qQf C w 155 155 jI) qfin 155 150 (wX13_valueOf_87 fX13_valueOf_87) :=
  qSnd_of (fun lo st m x hr0 => by
    unfold wX13_valueOf_87 at hr0
    split at hr0
    · exact ⟨_, (qsub_n (qsub_n (qsub_e (qsub_n (qsub_n qsub_nil))))), (lX13_valueOf_87 _ _).trans hr0⟩
    · cases hr0) (sX13_valueOf_87 h hm hx)
noncomputable def tX13_valueOf_20 (j22 : qT (Int32 × qM)) : qT (Int32 × qM) :=
  oC (.int (0 : Int32)) (oSi 3 (j22))
set_option maxRecDepth 20000 in
theorem sX13_valueOf_20 {C : qCx} {w : qWp} (h : qOk C w RX13 cX13_valueOf 5 2 155 155) (hm : qMt C (some .int)) (hx : qNx C) {j22 : qT (Int32 × qM)} (k22 : qSnd C w 5 155 (qQf C w 155 155 jI) qfin 155 35 j22) : qSnd C w 5 155 (qQf C w 155 155 jI) qfin 155 33 (tX13_valueOf_20 j22) :=
  cC (pc := 33) h dX13_valueOf_33 rfl (cSi (pc := 34) h dX13_valueOf_34 rfl (k22))
set_option maxRecDepth 20000 in
theorem lX13_valueOf_20 (a1 : Int32) (a2 : Int32) (m : qM) : tX13_valueOf_20 (wX13_valueOf_22 (fX13_valueOf_22 fX13_valueOf_87 FU)) [some (.ref 98), some (.int a1), some (.int a2), none, none] [] m = fX13_valueOf_20 a1 a2 m := rfl
theorem bX13_valueOf_20 {C : qCx} {w : qWp} (h : qOk C w RX13 cX13_valueOf 5 2 155 155) (hm : qMt C (some .int)) (hx : qNx C) : qSnd C w 5 155 (qQf C w 155 155 jI) qfin 155 33 (wX13_valueOf_20 fX13_valueOf_20) :=
  qSnd_of (fun lo st m x hr0 => by
    unfold wX13_valueOf_20 at hr0
    split at hr0
    · exact ⟨_, (qsub_e (qsub_e (qsub_e (qsub_n (qsub_n qsub_nil))))), (lX13_valueOf_20 _ _ _).trans hr0⟩
    · cases hr0) (sX13_valueOf_20 h hm hx (bX13_valueOf_22 h hm hx (bX13_valueOf_87 h hm hx) FU))
noncomputable def tX13_valueOf_0 (j4 : qT (Int32 × qM)) : qT (Int32 × qM) :=
  oC (.int (0 : Int32)) (oSi 2 (oC (.int (0 : Int32)) (oSi 3 (j4))))
set_option maxRecDepth 20000 in
theorem sX13_valueOf_0 {C : qCx} {w : qWp} (h : qOk C w RX13 cX13_valueOf 5 2 155 155) (hm : qMt C (some .int)) (hx : qNx C) {j4 : qT (Int32 × qM)} (k4 : qSnd C w 5 155 (qQf C w 155 155 jI) qfin 155 4 j4) : qSnd C w 5 155 (qQf C w 155 155 jI) qfin 155 0 (tX13_valueOf_0 j4) :=
  cC (pc := 0) h dX13_valueOf_0 rfl (cSi (pc := 1) h dX13_valueOf_1 rfl (cC (pc := 2) h dX13_valueOf_2 rfl (cSi (pc := 3) h dX13_valueOf_3 rfl (k4))))
set_option maxRecDepth 20000 in
theorem lX13_valueOf_0 (a1 : Int32) (m : qM) : tX13_valueOf_0 (wX13_valueOf_4 (fX13_valueOf_4 fX13_valueOf_20 FU)) [some (.ref 98), some (.int a1), none, none, none] [] m = fX13_valueOf_0 a1 m := rfl
noncomputable def GX13_valueOf : qG Int32 := fun av m => match av with
  | [.ref 98, .int a1] => fX13_valueOf a1 m
  | _ => none
theorem spX13_valueOf : qSpI yX13_valueOf (.code yX13_valueOf cX13_valueOf 5 (some .int)) 2 qfin 155 155 1 GX13_valueOf := by
  intro av m x m' hG
  unfold GX13_valueOf at hG
  split at hG
  · rename_i a1
    rw [fX13_valueOf_d] at hG
    exact ⟨qmeet (J := jI) (r := (x, m')) (av := [.ref 98, .int a1]) (by decide +kernel) (Nat.le_of_ble_eq_true rfl) (fun C w h hm hx hn => sX13_valueOf_0 h hm hx (bX13_valueOf_4 h hm hx (bX13_valueOf_20 h hm hx) FU)) ((lX13_valueOf_0 _ _).trans hG) (Nat.le_of_ble_eq_true rfl), Or.inl ⟨98, _, 13, _, _, rfl, by decide, rfl, qCk_13, rfl⟩⟩
  · cases hG
theorem im_X13_valueOf : Jvm.Cond.instanceMethod yX13_valueOf ∈ qTw := qm8 (List.mem_of_getElem? (i := 184) (by decide +kernel)) (by decide +kernel)
theorem se_X13_valueOf : Jvm.Cond.selects yX13_valueOf.cls yX13_valueOf yX13_valueOf ∈ qTw := List.mem_filter.mpr ⟨List.mem_append_left _ (List.mem_of_getElem? (i := 57) (by decide +kernel)), rfl⟩
theorem co_X13_valueOf : Jvm.Cond.code yX13_valueOf cX13_valueOf 5 (some .int) ∈ qTw := qm8 (List.mem_of_getElem? (i := 185) (by decide +kernel)) (by decide +kernel)
theorem yk_X13_valueOf : qYk yX13_valueOf 1 := ⟨⟨by decide +kernel, by decide +kernel⟩, by decide +kernel⟩
theorem ml_X13_391 : Jvm.Cond.methodLink RX13 391 yX13_valueOf ∈ qTw := qm8 (List.mem_of_getElem? (i := 182) (by decide +kernel)) (by decide +kernel)
theorem kd_X13_391 {C : qCx} {w : qWp} {cc : ByteArray} {nL dp n0 n1 pc : Nat} (h : qOk C w RX13 cc nL dp n0 n1) (d : decode cc pc = .ok (.invokevirtual 391, 3)) : qCallOk C w nL dp n0 n1 pc 2 1 yX13_valueOf (.code yX13_valueOf cX13_valueOf 5 (some .int)) := kindV h d ml_X13_391 im_X13_valueOf se_X13_valueOf in_ParentEveModel co_X13_valueOf yk_X13_valueOf (by decide)
theorem dX13_value_0 : decode cX13_value 0 = .ok (.iload_n 1, 1) := by decide +kernel
theorem dX13_value_1 : decode cX13_value 1 = .ok (.i2l, 1) := by decide +kernel
theorem dX13_value_2 : decode cX13_value 2 = .ok (.lconst 0, 1) := by decide +kernel
theorem dX13_value_3 : decode cX13_value 3 = .ok (.ldc2_w 335, 3) := by decide +kernel
theorem dX13_value_6 : decode cX13_value 6 = .ok (.invokestatic 66, 3) := by decide +kernel
theorem dX13_value_9 : decode cX13_value 9 = .ok (.ifCond .eq 11, 3) := by decide +kernel
theorem dX13_value_12 : decode cX13_value 12 = .ok (.aload_n 0, 1) := by decide +kernel
theorem dX13_value_13 : decode cX13_value 13 = .ok (.iload_n 1, 1) := by decide +kernel
theorem dX13_value_14 : decode cX13_value 14 = .ok (.invokevirtual 391, 3) := by decide +kernel
theorem dX13_value_17 : decode cX13_value 17 = .ok (.goto 4, 3) := by decide +kernel
theorem dX13_value_20 : decode cX13_value 20 = .ok (.iconst (-1), 1) := by decide +kernel
theorem dX13_value_21 : decode cX13_value 21 = .ok (.ireturn, 1) := by decide +kernel
noncomputable def tX13_value_11 : qT (Int32 × qM) :=
  eI
noncomputable def wX13_value_11 (k : Int32 → qM → Option (Int32 × qM)) : qT (Int32 × qM) := fun lo st m => match lo, st with
  | [_, _], [.int s0] => k s0 m
  | _, _ => none
set_option maxRecDepth 20000 in
theorem sX13_value_11 {C : qCx} {w : qWp} (h : qOk C w RX13 cX13_value 2 3 155 155) (hm : qMt C (some .int)) (hx : qNx C) : qSnd C w 2 155 (qQf C w 155 155 jI) qfin 155 21 (tX13_value_11) :=
  zI (pc := 21) h hm (Nat.le_refl _) dX13_value_21
set_option maxRecDepth 20000 in
theorem lX13_value_11 (s0 : Int32) (m : qM) : tX13_value_11 [none, none] [(.int s0)] m = fX13_value_11 s0 m := rfl
theorem bX13_value_11 {C : qCx} {w : qWp} (h : qOk C w RX13 cX13_value 2 3 155 155) (hm : qMt C (some .int)) (hx : qNx C) : qSnd C w 2 155 (qQf C w 155 155 jI) qfin 155 21 (wX13_value_11 fX13_value_11) :=
  qSnd_of (fun lo st m x hr0 => by
    unfold wX13_value_11 at hr0
    split at hr0
    · exact ⟨_, (qsub_n (qsub_n qsub_nil)), (lX13_value_11 _ _).trans hr0⟩
    · cases hr0) (sX13_value_11 h hm hx)
noncomputable def tX13_value_0 (j11 : qT (Int32 × qM)) : qT (Int32 × qM) :=
  oLi 1 (oI2l (oC (.long (0 : Int64)) (oC (.long (3 : Int64)) (oCi GX13_in 3 (oEq (oC (.int (-1 : Int32)) (j11)) (oLa 0 (oLi 1 (oCi GX13_valueOf 2 (j11)))))))))
set_option maxRecDepth 20000 in
theorem sX13_value_0 {C : qCx} {w : qWp} (h : qOk C w RX13 cX13_value 2 3 155 155) (hm : qMt C (some .int)) (hx : qNx C) {j11 : qT (Int32 × qM)} (k11 : qSnd C w 2 155 (qQf C w 155 155 jI) qfin 155 21 j11) : qSnd C w 2 155 (qQf C w 155 155 jI) qfin 155 0 (tX13_value_0 j11) :=
  cLi (pc := 0) h dX13_value_0 rfl (aI2l (pc := 1) h dX13_value_1 (cJ (pc := 2) h dX13_value_2 rfl (cKJ (pc := 3) h dX13_value_3 fc_X13_335 (kCi (pc := 6) h (kd_X13_66 h dX13_value_6) spX13_in (by decide) (by decide) (by decide) (by decide) (jEq (pc := 9) h dX13_value_9 rfl (cC (pc := 20) h dX13_value_20 rfl (k11)) (cLa (pc := 12) h dX13_value_12 rfl (cLi (pc := 13) h dX13_value_13 rfl (kCi (pc := 14) h (kd_X13_391 h dX13_value_14) spX13_valueOf (by decide) (by decide) (by decide) (by decide) (jGo (pc := 17) h dX13_value_17 rfl (k11))))))))))
set_option maxRecDepth 20000 in
theorem lX13_value_0 (a1 : Int32) (m : qM) : tX13_value_0 (wX13_value_11 fX13_value_11) [some (.ref 98), some (.int a1)] [] m = fX13_value_0 a1 m := rfl
noncomputable def GX13_value : qG Int32 := fun av m => match av with
  | [.ref 98, .int a1] => fX13_value a1 m
  | _ => none
theorem spX13_value : qSpI yX13_value (.code yX13_value cX13_value 2 (some .int)) 3 qfin 155 155 1 GX13_value := by
  intro av m x m' hG
  unfold GX13_value at hG
  split at hG
  · rename_i a1
    rw [fX13_value_d] at hG
    exact ⟨qmeet (J := jI) (r := (x, m')) (av := [.ref 98, .int a1]) (by decide +kernel) (Nat.le_of_ble_eq_true rfl) (fun C w h hm hx hn => sX13_value_0 h hm hx (bX13_value_11 h hm hx)) ((lX13_value_0 _ _).trans hG) (Nat.le_of_ble_eq_true rfl), Or.inl ⟨98, _, 13, _, _, rfl, by decide, rfl, qCk_13, rfl⟩⟩
  · cases hG
theorem mf_X13_229 : Jvm.Cond.fieldLink RX13 229 (qTb 13 39).1 (qTb 13 39).2.1 (qTb 13 39).2.2.1 ∈ qTw := qm7 (List.mem_of_getElem? (i := 17) (by decide +kernel)) (by decide +kernel)
theorem ff_X13_229_98 : qFd RX13 229 98 13 39 3 := ⟨mf_X13_229, rfl, by decide, rfl⟩
theorem dX13_valueNow_0 : decode cX13_valueNow 0 = .ok (.iconst 0, 1) := by decide +kernel
theorem dX13_valueNow_1 : decode cX13_valueNow 1 = .ok (.istore_n 1, 1) := by decide +kernel
theorem dX13_valueNow_2 : decode cX13_valueNow 2 = .ok (.iload_n 1, 1) := by decide +kernel
theorem dX13_valueNow_3 : decode cX13_valueNow 3 = .ok (.iconst 4, 1) := by decide +kernel
theorem dX13_valueNow_4 : decode cX13_valueNow 4 = .ok (.if_icmp .ge 20, 3) := by decide +kernel
theorem dX13_valueNow_7 : decode cX13_valueNow 7 = .ok (.aload_n 0, 1) := by decide +kernel
theorem dX13_valueNow_8 : decode cX13_valueNow 8 = .ok (.getfield 229, 3) := by decide +kernel
theorem dX13_valueNow_11 : decode cX13_valueNow 11 = .ok (.iload_n 1, 1) := by decide +kernel
theorem dX13_valueNow_12 : decode cX13_valueNow 12 = .ok (.aload_n 0, 1) := by decide +kernel
theorem dX13_valueNow_13 : decode cX13_valueNow 13 = .ok (.iload_n 1, 1) := by decide +kernel
theorem dX13_valueNow_14 : decode cX13_valueNow 14 = .ok (.invokevirtual 391, 3) := by decide +kernel
theorem dX13_valueNow_17 : decode cX13_valueNow 17 = .ok (.iastore, 1) := by decide +kernel
theorem dX13_valueNow_18 : decode cX13_valueNow 18 = .ok (.iinc 1 1, 3) := by decide +kernel
theorem dX13_valueNow_21 : decode cX13_valueNow 21 = .ok (.goto (-19), 3) := by decide +kernel
theorem dX13_valueNow_24 : decode cX13_valueNow 24 = .ok (.return_, 1) := by decide +kernel
noncomputable def tX13_valueNow_2 (j2 : qT (Unit × qM)) : qT (Unit × qM) :=
  oLi 1 (oC (.int (4 : Int32)) (oCGe (eV) (oLa 0 (oGf 98 39 128 (oLi 1 (oLa 0 (oLi 1 (oCi GX13_valueOf 2 (oWi 128 4 (oInc 1 (1 : Int32) (j2)))))))))))
noncomputable def wX13_valueNow_2 (k : Int32 → qM → Option (Unit × qM)) : qT (Unit × qM) := fun lo st m => match lo, st with
  | [some (.ref 98), some (.int a1)], [] => k a1 m
  | _, _ => none
set_option maxRecDepth 20000 in
theorem sX13_valueNow_2 {C : qCx} {w : qWp} (h : qOk C w RX13 cX13_valueNow 2 3 155 155) (hm : qMt C none) (hx : qNx C) {j2 : qT (Unit × qM)} (k2 : qSnd C w 2 155 (qQf C w 155 155 jV) qfin 155 2 j2) : qSnd C w 2 155 (qQf C w 155 155 jV) qfin 155 2 (tX13_valueNow_2 j2) :=
  cLi (pc := 2) h dX13_valueNow_2 rfl (cC (pc := 3) h dX13_valueNow_3 rfl (jCGe (pc := 4) h dX13_valueNow_4 rfl (zV (pc := 24) h hm (Nat.le_refl _) dX13_valueNow_24) (cLa (pc := 7) h dX13_valueNow_7 rfl (gGf (pc := 8) h dX13_valueNow_8 ff_X13_229_98 (Nat.le_of_ble_eq_true rfl) (Nat.le_of_ble_eq_true rfl) rfl (cLi (pc := 11) h dX13_valueNow_11 rfl (cLa (pc := 12) h dX13_valueNow_12 rfl (cLi (pc := 13) h dX13_valueNow_13 rfl (kCi (pc := 14) h (kd_X13_391 h dX13_valueNow_14) spX13_valueOf (by decide) (by decide) (by decide) (by decide) (rWi (pc := 17) h dX13_valueNow_17 rfl (Nat.le_of_ble_eq_true rfl) (Nat.le_of_ble_eq_true rfl) (cInc (pc := 18) h dX13_valueNow_18 rfl (jGo (pc := 21) h dX13_valueNow_21 rfl (k2))))))))))))
set_option maxRecDepth 20000 in
theorem lX13_valueNow_2 (n : Nat) (a1 : Int32) (m : qM) : tX13_valueNow_2 (wX13_valueNow_2 ((fX13_valueNow_2 n))) [some (.ref 98), some (.int a1)] [] m = fX13_valueNow_2 (n + 1) a1 m := rfl
theorem bX13_valueNow_2 {C : qCx} {w : qWp} (h : qOk C w RX13 cX13_valueNow 2 3 155 155) (hm : qMt C none) (hx : qNx C) : ∀ n : Nat, qSnd C w 2 155 (qQf C w 155 155 jV) qfin 155 2 (wX13_valueNow_2 (fX13_valueNow_2 n))
  | 0 => qSnd_of0 (fun lo st m x hr0 => by
    unfold wX13_valueNow_2 at hr0
    split at hr0
    · cases hr0
    · cases hr0)
  | n + 1 => by
    have ih := bX13_valueNow_2 h hm hx n
    exact qSnd_of (fun lo st m x hr0 => by
    unfold wX13_valueNow_2 at hr0
    split at hr0
    · exact ⟨_, (qsub_e (qsub_e qsub_nil)), (lX13_valueNow_2 n _ _).trans hr0⟩
    · cases hr0) (sX13_valueNow_2 h hm hx ih)
noncomputable def tX13_valueNow_0 (j2 : qT (Unit × qM)) : qT (Unit × qM) :=
  oC (.int (0 : Int32)) (oSi 1 (j2))
set_option maxRecDepth 20000 in
theorem sX13_valueNow_0 {C : qCx} {w : qWp} (h : qOk C w RX13 cX13_valueNow 2 3 155 155) (hm : qMt C none) (hx : qNx C) {j2 : qT (Unit × qM)} (k2 : qSnd C w 2 155 (qQf C w 155 155 jV) qfin 155 2 j2) : qSnd C w 2 155 (qQf C w 155 155 jV) qfin 155 0 (tX13_valueNow_0 j2) :=
  cC (pc := 0) h dX13_valueNow_0 rfl (cSi (pc := 1) h dX13_valueNow_1 rfl (k2))
set_option maxRecDepth 20000 in
theorem lX13_valueNow_0 (m : qM) : tX13_valueNow_0 (wX13_valueNow_2 (fX13_valueNow_2 FU)) [some (.ref 98), none] [] m = fX13_valueNow_0 m := rfl
noncomputable def GX13_valueNow : qG Unit := fun av m => match av with
  | [.ref 98] => fX13_valueNow m
  | _ => none
theorem spX13_valueNow : qSpV yX13_valueNow (.code yX13_valueNow cX13_valueNow 2 none) 3 qfin 155 155 1 GX13_valueNow := by
  intro av m m' hG
  unfold GX13_valueNow at hG
  split at hG
  · rw [fX13_valueNow_d] at hG
    exact ⟨qmeet (J := jV) (r := ((), m')) (av := [.ref 98]) (by decide +kernel) (Nat.le_of_ble_eq_true rfl) (fun C w h hm hx hn => sX13_valueNow_0 h hm hx (bX13_valueNow_2 h hm hx FU)) ((lX13_valueNow_0 _).trans hG) (Nat.le_of_ble_eq_true rfl), Or.inl ⟨98, _, 13, _, _, rfl, by decide, rfl, qCk_13, rfl⟩⟩
  · cases hG
theorem mf_X13_226 : Jvm.Cond.fieldLink RX13 226 (qTb 13 38).1 (qTb 13 38).2.1 (qTb 13 38).2.2.1 ∈ qTw := qm7 (List.mem_of_getElem? (i := 16) (by decide +kernel)) (by decide +kernel)
theorem ff_X13_226_98 : qFd RX13 226 98 13 38 3 := ⟨mf_X13_226, rfl, by decide, rfl⟩
theorem dX13_isMore_0 : decode cX13_isMore 0 = .ok (.iconst 0, 1) := by decide +kernel
theorem dX13_isMore_1 : decode cX13_isMore 1 = .ok (.istore_n 1, 1) := by decide +kernel
theorem dX13_isMore_2 : decode cX13_isMore 2 = .ok (.iload_n 1, 1) := by decide +kernel
theorem dX13_isMore_3 : decode cX13_isMore 3 = .ok (.iconst 4, 1) := by decide +kernel
theorem dX13_isMore_4 : decode cX13_isMore 4 = .ok (.if_icmp .ge 73, 3) := by decide +kernel
theorem dX13_isMore_7 : decode cX13_isMore 7 = .ok (.aload_n 0, 1) := by decide +kernel
theorem dX13_isMore_8 : decode cX13_isMore 8 = .ok (.getfield 229, 3) := by decide +kernel
theorem dX13_isMore_11 : decode cX13_isMore 11 = .ok (.iload_n 1, 1) := by decide +kernel
theorem dX13_isMore_12 : decode cX13_isMore 12 = .ok (.iaload, 1) := by decide +kernel
theorem dX13_isMore_13 : decode cX13_isMore 13 = .ok (.aload_n 0, 1) := by decide +kernel
theorem dX13_isMore_14 : decode cX13_isMore 14 = .ok (.getfield 226, 3) := by decide +kernel
theorem dX13_isMore_17 : decode cX13_isMore 17 = .ok (.iload_n 1, 1) := by decide +kernel
theorem dX13_isMore_18 : decode cX13_isMore 18 = .ok (.iaload, 1) := by decide +kernel
theorem dX13_isMore_19 : decode cX13_isMore 19 = .ok (.if_icmp .eq 52, 3) := by decide +kernel
theorem dX13_isMore_22 : decode cX13_isMore 22 = .ok (.iload_n 1, 1) := by decide +kernel
theorem dX13_isMore_23 : decode cX13_isMore 23 = .ok (.iconst 2, 1) := by decide +kernel
theorem dX13_isMore_24 : decode cX13_isMore 24 = .ok (.if_icmp .ne 26, 3) := by decide +kernel
theorem dX13_isMore_27 : decode cX13_isMore 27 = .ok (.aload_n 0, 1) := by decide +kernel
theorem dX13_isMore_28 : decode cX13_isMore 28 = .ok (.getfield 229, 3) := by decide +kernel
theorem dX13_isMore_31 : decode cX13_isMore 31 = .ok (.iload_n 1, 1) := by decide +kernel
theorem dX13_isMore_32 : decode cX13_isMore 32 = .ok (.iaload, 1) := by decide +kernel
theorem dX13_isMore_33 : decode cX13_isMore 33 = .ok (.aload_n 0, 1) := by decide +kernel
theorem dX13_isMore_34 : decode cX13_isMore 34 = .ok (.getfield 226, 3) := by decide +kernel
theorem dX13_isMore_37 : decode cX13_isMore 37 = .ok (.iload_n 1, 1) := by decide +kernel
theorem dX13_isMore_38 : decode cX13_isMore 38 = .ok (.iaload, 1) := by decide +kernel
theorem dX13_isMore_39 : decode cX13_isMore 39 = .ok (.if_icmp .ge 7, 3) := by decide +kernel
theorem dX13_isMore_42 : decode cX13_isMore 42 = .ok (.iconst 1, 1) := by decide +kernel
theorem dX13_isMore_43 : decode cX13_isMore 43 = .ok (.goto 27, 3) := by decide +kernel
theorem dX13_isMore_46 : decode cX13_isMore 46 = .ok (.iconst 0, 1) := by decide +kernel
theorem dX13_isMore_47 : decode cX13_isMore 47 = .ok (.goto 23, 3) := by decide +kernel
theorem dX13_isMore_50 : decode cX13_isMore 50 = .ok (.aload_n 0, 1) := by decide +kernel
theorem dX13_isMore_51 : decode cX13_isMore 51 = .ok (.getfield 229, 3) := by decide +kernel
theorem dX13_isMore_54 : decode cX13_isMore 54 = .ok (.iload_n 1, 1) := by decide +kernel
theorem dX13_isMore_55 : decode cX13_isMore 55 = .ok (.iaload, 1) := by decide +kernel
theorem dX13_isMore_56 : decode cX13_isMore 56 = .ok (.aload_n 0, 1) := by decide +kernel
theorem dX13_isMore_57 : decode cX13_isMore 57 = .ok (.getfield 226, 3) := by decide +kernel
theorem dX13_isMore_60 : decode cX13_isMore 60 = .ok (.iload_n 1, 1) := by decide +kernel
theorem dX13_isMore_61 : decode cX13_isMore 61 = .ok (.iaload, 1) := by decide +kernel
theorem dX13_isMore_62 : decode cX13_isMore 62 = .ok (.if_icmp .le 7, 3) := by decide +kernel
theorem dX13_isMore_65 : decode cX13_isMore 65 = .ok (.iconst 1, 1) := by decide +kernel
theorem dX13_isMore_66 : decode cX13_isMore 66 = .ok (.goto 4, 3) := by decide +kernel
theorem dX13_isMore_69 : decode cX13_isMore 69 = .ok (.iconst 0, 1) := by decide +kernel
theorem dX13_isMore_70 : decode cX13_isMore 70 = .ok (.ireturn, 1) := by decide +kernel
theorem dX13_isMore_71 : decode cX13_isMore 71 = .ok (.iinc 1 1, 3) := by decide +kernel
theorem dX13_isMore_74 : decode cX13_isMore 74 = .ok (.goto (-72), 3) := by decide +kernel
theorem dX13_isMore_77 : decode cX13_isMore 77 = .ok (.iconst 0, 1) := by decide +kernel
theorem dX13_isMore_78 : decode cX13_isMore 78 = .ok (.ireturn, 1) := by decide +kernel
noncomputable def tX13_isMore_2 (j2 : qT (Int32 × qM)) (j42 : qT (Int32 × qM)) : qT (Int32 × qM) :=
  oLi 1 (oC (.int (4 : Int32)) (oCGe (oC (.int (0 : Int32)) (eZ)) (oLa 0 (oGf 98 39 128 (oLi 1 (oAi 128 4 (oLa 0 (oGf 98 38 127 (oLi 1 (oAi 127 4 (oCEq (oInc 1 (1 : Int32) (j2)) (oLi 1 (oC (.int (2 : Int32)) (oCEq (oLa 0 (oGf 98 39 128 (oLi 1 (oAi 128 4 (oLa 0 (oGf 98 38 127 (oLi 1 (oAi 127 4 (oCGe (oC (.int (0 : Int32)) (j42)) (oC (.int (1 : Int32)) (j42))))))))))) (oLa 0 (oGf 98 39 128 (oLi 1 (oAi 128 4 (oLa 0 (oGf 98 38 127 (oLi 1 (oAi 127 4 (oCLe (oC (.int (0 : Int32)) (j42)) (oC (.int (1 : Int32)) (j42)))))))))))))))))))))))))
noncomputable def wX13_isMore_2 (k : Int32 → qM → Option (Int32 × qM)) : qT (Int32 × qM) := fun lo st m => match lo, st with
  | [some (.ref 98), some (.int a1)], [] => k a1 m
  | _, _ => none
noncomputable def wX13_isMore_42 (k : Int32 → qM → Option (Int32 × qM)) : qT (Int32 × qM) := fun lo st m => match lo, st with
  | [_, _], [.int s0] => k s0 m
  | _, _ => none
set_option maxRecDepth 20000 in
theorem sX13_isMore_2 {C : qCx} {w : qWp} (h : qOk C w RX13 cX13_isMore 2 0 155 155) (hm : qMt C (some .boolean)) (hx : qNx C) {j2 : qT (Int32 × qM)} {j42 : qT (Int32 × qM)} (k2 : qSnd C w 2 155 (qQf C w 155 155 jI) qfin 155 2 j2) (k42 : qSnd C w 2 155 (qQf C w 155 155 jI) qfin 155 70 j42) : qSnd C w 2 155 (qQf C w 155 155 jI) qfin 155 2 (tX13_isMore_2 j2 j42) :=
  cLi (pc := 2) h dX13_isMore_2 rfl (cC (pc := 3) h dX13_isMore_3 rfl (jCGe (pc := 4) h dX13_isMore_4 rfl (cC (pc := 77) h dX13_isMore_77 rfl (zZ (pc := 78) h hm (Nat.le_refl _) dX13_isMore_78)) (cLa (pc := 7) h dX13_isMore_7 rfl (gGf (pc := 8) h dX13_isMore_8 ff_X13_229_98 (Nat.le_of_ble_eq_true rfl) (Nat.le_of_ble_eq_true rfl) rfl (cLi (pc := 11) h dX13_isMore_11 rfl (rAi (pc := 12) h dX13_isMore_12 rfl (Nat.le_of_ble_eq_true rfl) (Nat.le_of_ble_eq_true rfl) (cLa (pc := 13) h dX13_isMore_13 rfl (gGf (pc := 14) h dX13_isMore_14 ff_X13_226_98 (Nat.le_of_ble_eq_true rfl) (Nat.le_of_ble_eq_true rfl) rfl (cLi (pc := 17) h dX13_isMore_17 rfl (rAi (pc := 18) h dX13_isMore_18 rfl (Nat.le_of_ble_eq_true rfl) (Nat.le_of_ble_eq_true rfl) (jCEq (pc := 19) h dX13_isMore_19 rfl (cInc (pc := 71) h dX13_isMore_71 rfl (jGo (pc := 74) h dX13_isMore_74 rfl (k2))) (cLi (pc := 22) h dX13_isMore_22 rfl (cC (pc := 23) h dX13_isMore_23 rfl (jCNe (pc := 24) h dX13_isMore_24 rfl (cLa (pc := 50) h dX13_isMore_50 rfl (gGf (pc := 51) h dX13_isMore_51 ff_X13_229_98 (Nat.le_of_ble_eq_true rfl) (Nat.le_of_ble_eq_true rfl) rfl (cLi (pc := 54) h dX13_isMore_54 rfl (rAi (pc := 55) h dX13_isMore_55 rfl (Nat.le_of_ble_eq_true rfl) (Nat.le_of_ble_eq_true rfl) (cLa (pc := 56) h dX13_isMore_56 rfl (gGf (pc := 57) h dX13_isMore_57 ff_X13_226_98 (Nat.le_of_ble_eq_true rfl) (Nat.le_of_ble_eq_true rfl) rfl (cLi (pc := 60) h dX13_isMore_60 rfl (rAi (pc := 61) h dX13_isMore_61 rfl (Nat.le_of_ble_eq_true rfl) (Nat.le_of_ble_eq_true rfl) (jCLe (pc := 62) h dX13_isMore_62 rfl (cC (pc := 69) h dX13_isMore_69 rfl (k42)) (cC (pc := 65) h dX13_isMore_65 rfl (jGo (pc := 66) h dX13_isMore_66 rfl (k42)))))))))))) (cLa (pc := 27) h dX13_isMore_27 rfl (gGf (pc := 28) h dX13_isMore_28 ff_X13_229_98 (Nat.le_of_ble_eq_true rfl) (Nat.le_of_ble_eq_true rfl) rfl (cLi (pc := 31) h dX13_isMore_31 rfl (rAi (pc := 32) h dX13_isMore_32 rfl (Nat.le_of_ble_eq_true rfl) (Nat.le_of_ble_eq_true rfl) (cLa (pc := 33) h dX13_isMore_33 rfl (gGf (pc := 34) h dX13_isMore_34 ff_X13_226_98 (Nat.le_of_ble_eq_true rfl) (Nat.le_of_ble_eq_true rfl) rfl (cLi (pc := 37) h dX13_isMore_37 rfl (rAi (pc := 38) h dX13_isMore_38 rfl (Nat.le_of_ble_eq_true rfl) (Nat.le_of_ble_eq_true rfl) (jCGe (pc := 39) h dX13_isMore_39 rfl (cC (pc := 46) h dX13_isMore_46 rfl (jGo (pc := 47) h dX13_isMore_47 rfl (k42))) (cC (pc := 42) h dX13_isMore_42 rfl (jGo (pc := 43) h dX13_isMore_43 rfl (k42))))))))))))))))))))))))))
set_option maxRecDepth 20000 in
theorem lX13_isMore_2 (k42 : Int32 → qM → Option (Int32 × qM)) (n : Nat) (a1 : Int32) (m : qM) : tX13_isMore_2 (wX13_isMore_2 ((fX13_isMore_2 k42 n))) (wX13_isMore_42 k42) [some (.ref 98), some (.int a1)] [] m = fX13_isMore_2 k42 (n + 1) a1 m := rfl
theorem bX13_isMore_2 {C : qCx} {w : qWp} (h : qOk C w RX13 cX13_isMore 2 0 155 155) (hm : qMt C (some .boolean)) (hx : qNx C) {k42 : Int32 → qM → Option (Int32 × qM)} (h42 : qSnd C w 2 155 (qQf C w 155 155 jI) qfin 155 70 (wX13_isMore_42 k42)) : ∀ n : Nat, qSnd C w 2 155 (qQf C w 155 155 jI) qfin 155 2 (wX13_isMore_2 (fX13_isMore_2 k42 n))
  | 0 => qSnd_of0 (fun lo st m x hr0 => by
    unfold wX13_isMore_2 at hr0
    split at hr0
    · cases hr0
    · cases hr0)
  | n + 1 => by
    have ih := bX13_isMore_2 h hm hx h42 n
    exact qSnd_of (fun lo st m x hr0 => by
    unfold wX13_isMore_2 at hr0
    split at hr0
    · exact ⟨_, (qsub_e (qsub_e qsub_nil)), (lX13_isMore_2 _ n _ _).trans hr0⟩
    · cases hr0) (sX13_isMore_2 h hm hx ih h42)
noncomputable def tX13_isMore_42 : qT (Int32 × qM) :=
  eZ
set_option maxRecDepth 20000 in
theorem sX13_isMore_42 {C : qCx} {w : qWp} (h : qOk C w RX13 cX13_isMore 2 0 155 155) (hm : qMt C (some .boolean)) (hx : qNx C) : qSnd C w 2 155 (qQf C w 155 155 jI) qfin 155 70 (tX13_isMore_42) :=
  zZ (pc := 70) h hm (Nat.le_refl _) dX13_isMore_70
set_option maxRecDepth 20000 in
theorem lX13_isMore_42 (s0 : Int32) (m : qM) : tX13_isMore_42 [none, none] [(.int s0)] m = fX13_isMore_42 s0 m := rfl
theorem bX13_isMore_42 {C : qCx} {w : qWp} (h : qOk C w RX13 cX13_isMore 2 0 155 155) (hm : qMt C (some .boolean)) (hx : qNx C) : qSnd C w 2 155 (qQf C w 155 155 jI) qfin 155 70 (wX13_isMore_42 fX13_isMore_42) :=
  qSnd_of (fun lo st m x hr0 => by
    unfold wX13_isMore_42 at hr0
    split at hr0
    · exact ⟨_, (qsub_n (qsub_n qsub_nil)), (lX13_isMore_42 _ _).trans hr0⟩
    · cases hr0) (sX13_isMore_42 h hm hx)
noncomputable def tX13_isMore_0 (j2 : qT (Int32 × qM)) : qT (Int32 × qM) :=
  oC (.int (0 : Int32)) (oSi 1 (j2))
set_option maxRecDepth 20000 in
theorem sX13_isMore_0 {C : qCx} {w : qWp} (h : qOk C w RX13 cX13_isMore 2 0 155 155) (hm : qMt C (some .boolean)) (hx : qNx C) {j2 : qT (Int32 × qM)} (k2 : qSnd C w 2 155 (qQf C w 155 155 jI) qfin 155 2 j2) : qSnd C w 2 155 (qQf C w 155 155 jI) qfin 155 0 (tX13_isMore_0 j2) :=
  cC (pc := 0) h dX13_isMore_0 rfl (cSi (pc := 1) h dX13_isMore_1 rfl (k2))
set_option maxRecDepth 20000 in
theorem lX13_isMore_0 (m : qM) : tX13_isMore_0 (wX13_isMore_2 (fX13_isMore_2 fX13_isMore_42 FU)) [some (.ref 98), none] [] m = fX13_isMore_0 m := rfl
noncomputable def GX13_isMore : qG Int32 := fun av m => match av with
  | [.ref 98] => fX13_isMore m
  | _ => none
theorem spX13_isMore : qSpI yX13_isMore (.code yX13_isMore cX13_isMore 2 (some .boolean)) 0 qfin 155 155 1 GX13_isMore := by
  intro av m x m' hG
  unfold GX13_isMore at hG
  split at hG
  · rw [fX13_isMore_d] at hG
    exact ⟨qmeet (J := jI) (r := (x, m')) (av := [.ref 98]) (by decide +kernel) (Nat.le_of_ble_eq_true rfl) (fun C w h hm hx hn => sX13_isMore_0 h hm hx (bX13_isMore_2 h hm hx (bX13_isMore_42 h hm hx) FU)) ((lX13_isMore_0 _).trans hG) (Nat.le_of_ble_eq_true rfl), Or.inl ⟨98, _, 13, _, _, rfl, by decide, rfl, qCk_13, rfl⟩⟩
  · cases hG
theorem dX13_keepValue_0 : decode cX13_keepValue 0 = .ok (.iconst 0, 1) := by decide +kernel
theorem dX13_keepValue_1 : decode cX13_keepValue 1 = .ok (.istore_n 1, 1) := by decide +kernel
theorem dX13_keepValue_2 : decode cX13_keepValue 2 = .ok (.iload_n 1, 1) := by decide +kernel
theorem dX13_keepValue_3 : decode cX13_keepValue 3 = .ok (.iconst 4, 1) := by decide +kernel
theorem dX13_keepValue_4 : decode cX13_keepValue 4 = .ok (.if_icmp .ge 21, 3) := by decide +kernel
theorem dX13_keepValue_7 : decode cX13_keepValue 7 = .ok (.aload_n 0, 1) := by decide +kernel
theorem dX13_keepValue_8 : decode cX13_keepValue 8 = .ok (.getfield 226, 3) := by decide +kernel
theorem dX13_keepValue_11 : decode cX13_keepValue 11 = .ok (.iload_n 1, 1) := by decide +kernel
theorem dX13_keepValue_12 : decode cX13_keepValue 12 = .ok (.aload_n 0, 1) := by decide +kernel
theorem dX13_keepValue_13 : decode cX13_keepValue 13 = .ok (.getfield 229, 3) := by decide +kernel
theorem dX13_keepValue_16 : decode cX13_keepValue 16 = .ok (.iload_n 1, 1) := by decide +kernel
theorem dX13_keepValue_17 : decode cX13_keepValue 17 = .ok (.iaload, 1) := by decide +kernel
theorem dX13_keepValue_18 : decode cX13_keepValue 18 = .ok (.iastore, 1) := by decide +kernel
theorem dX13_keepValue_19 : decode cX13_keepValue 19 = .ok (.iinc 1 1, 3) := by decide +kernel
theorem dX13_keepValue_22 : decode cX13_keepValue 22 = .ok (.goto (-20), 3) := by decide +kernel
theorem dX13_keepValue_25 : decode cX13_keepValue 25 = .ok (.return_, 1) := by decide +kernel
noncomputable def tX13_keepValue_2 (j2 : qT (Unit × qM)) : qT (Unit × qM) :=
  oLi 1 (oC (.int (4 : Int32)) (oCGe (eV) (oLa 0 (oGf 98 38 127 (oLi 1 (oLa 0 (oGf 98 39 128 (oLi 1 (oAi 128 4 (oWi 127 4 (oInc 1 (1 : Int32) (j2))))))))))))
noncomputable def wX13_keepValue_2 (k : Int32 → qM → Option (Unit × qM)) : qT (Unit × qM) := fun lo st m => match lo, st with
  | [some (.ref 98), some (.int a1)], [] => k a1 m
  | _, _ => none
set_option maxRecDepth 20000 in
theorem sX13_keepValue_2 {C : qCx} {w : qWp} (h : qOk C w RX13 cX13_keepValue 2 0 155 155) (hm : qMt C none) (hx : qNx C) {j2 : qT (Unit × qM)} (k2 : qSnd C w 2 155 (qQf C w 155 155 jV) qfin 155 2 j2) : qSnd C w 2 155 (qQf C w 155 155 jV) qfin 155 2 (tX13_keepValue_2 j2) :=
  cLi (pc := 2) h dX13_keepValue_2 rfl (cC (pc := 3) h dX13_keepValue_3 rfl (jCGe (pc := 4) h dX13_keepValue_4 rfl (zV (pc := 25) h hm (Nat.le_refl _) dX13_keepValue_25) (cLa (pc := 7) h dX13_keepValue_7 rfl (gGf (pc := 8) h dX13_keepValue_8 ff_X13_226_98 (Nat.le_of_ble_eq_true rfl) (Nat.le_of_ble_eq_true rfl) rfl (cLi (pc := 11) h dX13_keepValue_11 rfl (cLa (pc := 12) h dX13_keepValue_12 rfl (gGf (pc := 13) h dX13_keepValue_13 ff_X13_229_98 (Nat.le_of_ble_eq_true rfl) (Nat.le_of_ble_eq_true rfl) rfl (cLi (pc := 16) h dX13_keepValue_16 rfl (rAi (pc := 17) h dX13_keepValue_17 rfl (Nat.le_of_ble_eq_true rfl) (Nat.le_of_ble_eq_true rfl) (rWi (pc := 18) h dX13_keepValue_18 rfl (Nat.le_of_ble_eq_true rfl) (Nat.le_of_ble_eq_true rfl) (cInc (pc := 19) h dX13_keepValue_19 rfl (jGo (pc := 22) h dX13_keepValue_22 rfl (k2)))))))))))))
set_option maxRecDepth 20000 in
theorem lX13_keepValue_2 (n : Nat) (a1 : Int32) (m : qM) : tX13_keepValue_2 (wX13_keepValue_2 ((fX13_keepValue_2 n))) [some (.ref 98), some (.int a1)] [] m = fX13_keepValue_2 (n + 1) a1 m := rfl
theorem bX13_keepValue_2 {C : qCx} {w : qWp} (h : qOk C w RX13 cX13_keepValue 2 0 155 155) (hm : qMt C none) (hx : qNx C) : ∀ n : Nat, qSnd C w 2 155 (qQf C w 155 155 jV) qfin 155 2 (wX13_keepValue_2 (fX13_keepValue_2 n))
  | 0 => qSnd_of0 (fun lo st m x hr0 => by
    unfold wX13_keepValue_2 at hr0
    split at hr0
    · cases hr0
    · cases hr0)
  | n + 1 => by
    have ih := bX13_keepValue_2 h hm hx n
    exact qSnd_of (fun lo st m x hr0 => by
    unfold wX13_keepValue_2 at hr0
    split at hr0
    · exact ⟨_, (qsub_e (qsub_e qsub_nil)), (lX13_keepValue_2 n _ _).trans hr0⟩
    · cases hr0) (sX13_keepValue_2 h hm hx ih)
noncomputable def tX13_keepValue_0 (j2 : qT (Unit × qM)) : qT (Unit × qM) :=
  oC (.int (0 : Int32)) (oSi 1 (j2))
set_option maxRecDepth 20000 in
theorem sX13_keepValue_0 {C : qCx} {w : qWp} (h : qOk C w RX13 cX13_keepValue 2 0 155 155) (hm : qMt C none) (hx : qNx C) {j2 : qT (Unit × qM)} (k2 : qSnd C w 2 155 (qQf C w 155 155 jV) qfin 155 2 j2) : qSnd C w 2 155 (qQf C w 155 155 jV) qfin 155 0 (tX13_keepValue_0 j2) :=
  cC (pc := 0) h dX13_keepValue_0 rfl (cSi (pc := 1) h dX13_keepValue_1 rfl (k2))
set_option maxRecDepth 20000 in
theorem lX13_keepValue_0 (m : qM) : tX13_keepValue_0 (wX13_keepValue_2 (fX13_keepValue_2 FU)) [some (.ref 98), none] [] m = fX13_keepValue_0 m := rfl
noncomputable def GX13_keepValue : qG Unit := fun av m => match av with
  | [.ref 98] => fX13_keepValue m
  | _ => none
theorem spX13_keepValue : qSpV yX13_keepValue (.code yX13_keepValue cX13_keepValue 2 none) 0 qfin 155 155 1 GX13_keepValue := by
  intro av m m' hG
  unfold GX13_keepValue at hG
  split at hG
  · rw [fX13_keepValue_d] at hG
    exact ⟨qmeet (J := jV) (r := ((), m')) (av := [.ref 98]) (by decide +kernel) (Nat.le_of_ble_eq_true rfl) (fun C w h hm hx hn => sX13_keepValue_0 h hm hx (bX13_keepValue_2 h hm hx FU)) ((lX13_keepValue_0 _).trans hG) (Nat.le_of_ble_eq_true rfl), Or.inl ⟨98, _, 13, _, _, rfl, by decide, rfl, qCk_13, rfl⟩⟩
  · cases hG

