/-! methods (by program): X1_act, X1_look, X1_makeReady, X1_startOf, X1_stopOf, X1_missed, X1_lastStop, X9_size, J9_abs_0f7a4, X1_howFar, X1_offAt, X1_nextOf, X9_minuteOf, X9_areAllOfTheirMinutes, X1_isMessage -/
theorem im_X1_meetIfHere : Jvm.Cond.instanceMethod yX1_meetIfHere ∈ qTw := qm5 (List.mem_of_getElem? (i := 214) (by decide +kernel)) (by decide +kernel)
theorem se_X1_meetIfHere : Jvm.Cond.selects yX1_meetIfHere.cls yX1_meetIfHere yX1_meetIfHere ∈ qTw := List.mem_filter.mpr ⟨List.mem_append_left _ (List.mem_of_getElem? (i := 30) (by decide +kernel)), rfl⟩
theorem co_X1_meetIfHere : Jvm.Cond.code yX1_meetIfHere cX1_meetIfHere 4 none ∈ qTw := qm5 (List.mem_of_getElem? (i := 215) (by decide +kernel)) (by decide +kernel)
theorem yk_X1_meetIfHere : qYk yX1_meetIfHere 3 := ⟨⟨by decide +kernel, by decide +kernel⟩, by decide +kernel⟩
theorem ml_X1_193 : Jvm.Cond.methodLink RX1 193 yX1_meetIfHere ∈ qTw := qm5 (List.mem_of_getElem? (i := 212) (by decide +kernel)) (by decide +kernel)
theorem kd_X1_193 {C : qCx} {w : qWp} {cc : ByteArray} {nL dp n0 n1 pc : Nat} (h : qOk C w RX1 cc nL dp n0 n1) (d : decode cc pc = .ok (.invokevirtual 193, 3)) : qCallOk C w nL dp n0 n1 pc 4 1 yX1_meetIfHere (.code yX1_meetIfHere cX1_meetIfHere 4 none) := kindV h d ml_X1_193 im_X1_meetIfHere se_X1_meetIfHere in_ParentEve_Evening co_X1_meetIfHere yk_X1_meetIfHere (by decide)
theorem im_X1_meetOneBehind : Jvm.Cond.instanceMethod yX1_meetOneBehind ∈ qTw := qm5 (List.mem_of_getElem? (i := 219) (by decide +kernel)) (by decide +kernel)
theorem se_X1_meetOneBehind : Jvm.Cond.selects yX1_meetOneBehind.cls yX1_meetOneBehind yX1_meetOneBehind ∈ qTw := List.mem_filter.mpr ⟨List.mem_append_left _ (List.mem_of_getElem? (i := 31) (by decide +kernel)), rfl⟩
theorem co_X1_meetOneBehind : Jvm.Cond.code yX1_meetOneBehind cX1_meetOneBehind 6 none ∈ qTw := qm5 (List.mem_of_getElem? (i := 220) (by decide +kernel)) (by decide +kernel)
theorem yk_X1_meetOneBehind : qYk yX1_meetOneBehind 2 := ⟨⟨by decide +kernel, by decide +kernel⟩, by decide +kernel⟩
theorem ml_X1_196 : Jvm.Cond.methodLink RX1 196 yX1_meetOneBehind ∈ qTw := qm5 (List.mem_of_getElem? (i := 217) (by decide +kernel)) (by decide +kernel)
theorem kd_X1_196 {C : qCx} {w : qWp} {cc : ByteArray} {nL dp n0 n1 pc : Nat} (h : qOk C w RX1 cc nL dp n0 n1) (d : decode cc pc = .ok (.invokevirtual 196, 3)) : qCallOk C w nL dp n0 n1 pc 3 1 yX1_meetOneBehind (.code yX1_meetOneBehind cX1_meetOneBehind 6 none) := kindV h d ml_X1_196 im_X1_meetOneBehind se_X1_meetOneBehind in_ParentEve_Evening co_X1_meetOneBehind yk_X1_meetOneBehind (by decide)
theorem ml_X1_88 : Jvm.Cond.methodLink RX1 88 yJ9_min_7cf53 ∈ qTw := qm5 (List.mem_of_getElem? (i := 216) (by decide +kernel)) (by decide +kernel)
theorem kd_X1_88 {C : qCx} {w : qWp} {cc : ByteArray} {nL dp n0 n1 pc : Nat} (h : qOk C w RX1 cc nL dp n0 n1) (d : decode cc pc = .ok (.invokestatic 88, 3)) : qCallOk C w nL dp n0 n1 pc 2 0 yJ9_min_7cf53 (.code yJ9_min_7cf53 cJ9_min_7cf53 2 (some .int)) := kindS h d ml_X1_88 im_J9_min_7cf53 in_java_lang_Math co_J9_min_7cf53 yk_J9_min_7cf53 (by decide)
theorem dX1_act_0 : decode cX1_act 0 = .ok (.iload_n 1, 1) := by decide +kernel
theorem dX1_act_1 : decode cX1_act 1 = .ok (.tableswitch 113 0 5 #[39, 47, 113, 103, 62, 83], 39) := by decide +kernel
theorem dX1_act_40 : decode cX1_act 40 = .ok (.aload_n 0, 1) := by decide +kernel
theorem dX1_act_41 : decode cX1_act 41 = .ok (.iload_n 3, 1) := by decide +kernel
theorem dX1_act_42 : decode cX1_act 42 = .ok (.invokevirtual 190, 3) := by decide +kernel
theorem dX1_act_45 : decode cX1_act 45 = .ok (.goto 69, 3) := by decide +kernel
theorem dX1_act_48 : decode cX1_act 48 = .ok (.aload_n 0, 1) := by decide +kernel
theorem dX1_act_49 : decode cX1_act 49 = .ok (.iload_n 3, 1) := by decide +kernel
theorem dX1_act_50 : decode cX1_act 50 = .ok (.iload 4, 2) := by decide +kernel
theorem dX1_act_52 : decode cX1_act 52 = .ok (.aload_n 0, 1) := by decide +kernel
theorem dX1_act_53 : decode cX1_act 53 = .ok (.iload_n 3, 1) := by decide +kernel
theorem dX1_act_54 : decode cX1_act 54 = .ok (.invokevirtual 181, 3) := by decide +kernel
theorem dX1_act_57 : decode cX1_act 57 = .ok (.invokevirtual 193, 3) := by decide +kernel
theorem dX1_act_60 : decode cX1_act 60 = .ok (.goto 54, 3) := by decide +kernel
theorem dX1_act_63 : decode cX1_act 63 = .ok (.aload_n 0, 1) := by decide +kernel
theorem dX1_act_64 : decode cX1_act 64 = .ok (.iload_n 3, 1) := by decide +kernel
theorem dX1_act_65 : decode cX1_act 65 = .ok (.iload 4, 2) := by decide +kernel
theorem dX1_act_67 : decode cX1_act 67 = .ok (.iload_n 2, 1) := by decide +kernel
theorem dX1_act_68 : decode cX1_act 68 = .ok (.aload_n 0, 1) := by decide +kernel
theorem dX1_act_69 : decode cX1_act 69 = .ok (.getfield 56, 3) := by decide +kernel
theorem dX1_act_72 : decode cX1_act 72 = .ok (.invokevirtual 111, 3) := by decide +kernel
theorem dX1_act_75 : decode cX1_act 75 = .ok (.invokestatic 88, 3) := by decide +kernel
theorem dX1_act_78 : decode cX1_act 78 = .ok (.invokevirtual 193, 3) := by decide +kernel
theorem dX1_act_81 : decode cX1_act 81 = .ok (.goto 33, 3) := by decide +kernel
theorem dX1_act_84 : decode cX1_act 84 = .ok (.aload_n 0, 1) := by decide +kernel
theorem dX1_act_85 : decode cX1_act 85 = .ok (.getfield 35, 3) := by decide +kernel
theorem dX1_act_88 : decode cX1_act 88 = .ok (.aload_n 0, 1) := by decide +kernel
theorem dX1_act_89 : decode cX1_act 89 = .ok (.getfield 68, 3) := by decide +kernel
theorem dX1_act_92 : decode cX1_act 92 = .ok (.iload_n 3, 1) := by decide +kernel
theorem dX1_act_93 : decode cX1_act 93 = .ok (.invokevirtual 159, 3) := by decide +kernel
theorem dX1_act_96 : decode cX1_act 96 = .ok (.iload 4, 2) := by decide +kernel
theorem dX1_act_98 : decode cX1_act 98 = .ok (.iload_n 2, 1) := by decide +kernel
theorem dX1_act_99 : decode cX1_act 99 = .ok (.iadd, 1) := by decide +kernel
theorem dX1_act_100 : decode cX1_act 100 = .ok (.iastore, 1) := by decide +kernel
theorem dX1_act_101 : decode cX1_act 101 = .ok (.goto 13, 3) := by decide +kernel
theorem dX1_act_104 : decode cX1_act 104 = .ok (.aload_n 0, 1) := by decide +kernel
theorem dX1_act_105 : decode cX1_act 105 = .ok (.iload_n 3, 1) := by decide +kernel
theorem dX1_act_106 : decode cX1_act 106 = .ok (.iload 4, 2) := by decide +kernel
theorem dX1_act_108 : decode cX1_act 108 = .ok (.invokevirtual 196, 3) := by decide +kernel
theorem dX1_act_111 : decode cX1_act 111 = .ok (.goto 3, 3) := by decide +kernel
theorem dX1_act_114 : decode cX1_act 114 = .ok (.return_, 1) := by decide +kernel
noncomputable def tX1_act_40 : qT (Unit × qM) :=
  eV
noncomputable def wX1_act_40 (k : qM → Option (Unit × qM)) : qT (Unit × qM) := fun lo st m => match lo, st with
  | [_, _, _, _, _], [] => k m
  | _, _ => none
set_option maxRecDepth 20000 in
theorem sX1_act_40 {C : qCx} {w : qWp} (h : qOk C w RX1 cX1_act 5 3 155 155) (hm : qMt C none) (hx : qNx C) : qSnd C w 5 155 (qQf C w 155 155 jV) qfin 155 114 (tX1_act_40) :=
  zV (pc := 114) h hm (Nat.le_refl _) dX1_act_114
set_option maxRecDepth 20000 in
theorem lX1_act_40 (m : qM) : tX1_act_40 [none, none, none, none, none] [] m = fX1_act_40 m := rfl
theorem bX1_act_40 {C : qCx} {w : qWp} (h : qOk C w RX1 cX1_act 5 3 155 155) (hm : qMt C none) (hx : qNx C) : qSnd C w 5 155 (qQf C w 155 155 jV) qfin 155 114 (wX1_act_40 fX1_act_40) :=
  qSnd_of (fun lo st m x hr0 => by
    unfold wX1_act_40 at hr0
    split at hr0
    · exact ⟨_, (qsub_n (qsub_n (qsub_n (qsub_n (qsub_n qsub_nil))))), (lX1_act_40 _).trans hr0⟩
    · cases hr0) (sX1_act_40 h hm hx)
noncomputable def tX1_act_0 (j40 : qT (Unit × qM)) : qT (Unit × qM) :=
  oLi 1 (oSw (0 : Int32) (j40) [oLa 0 (oLi 3 (oCv GX1_drop 2 (j40))), oLa 0 (oLi 3 (oLi 4 (oLa 0 (oLi 3 (oCi GX1_fullMinutes 2 (oCv GX1_meetIfHere 4 (j40))))))), j40, oLa 0 (oLi 3 (oLi 4 (oCv GX1_meetOneBehind 3 (j40)))), oLa 0 (oLi 3 (oLi 4 (oLi 2 (oLa 0 (oGf 80 0 4 (oCi GX7_slotMinutes 1 (oCi GJ9_min_7cf53 2 (oCv GX1_meetIfHere 4 (j40))))))))), oLa 0 (oGf 80 12 86 (oLa 0 (oGf 80 3 58 (oLi 3 (oCi GX4_teacherOf 2 (oLi 4 (oLi 2 (o2 (· + ·) (oWi 86 10 (j40))))))))))])
set_option maxRecDepth 20000 in
theorem sX1_act_0 {C : qCx} {w : qWp} (h : qOk C w RX1 cX1_act 5 3 155 155) (hm : qMt C none) (hx : qNx C) {j40 : qT (Unit × qM)} (k40 : qSnd C w 5 155 (qQf C w 155 155 jV) qfin 155 114 j40) : qSnd C w 5 155 (qQf C w 155 155 jV) qfin 155 0 (tX1_act_0 j40) :=
  cLi (pc := 0) h dX1_act_0 rfl (jSw (pc := 1) (a := 0) h dX1_act_1 rfl rfl rfl (by decide) rfl (k40) ⟨⟨_, rfl, cLa (pc := 40) h dX1_act_40 rfl (cLi (pc := 41) h dX1_act_41 rfl (kCv (pc := 42) h (kd_X1_190 h dX1_act_42) spX1_drop (by decide) (by decide) (by decide) (by decide) (jGo (pc := 45) h dX1_act_45 rfl (k40))))⟩, ⟨⟨_, rfl, cLa (pc := 48) h dX1_act_48 rfl (cLi (pc := 49) h dX1_act_49 rfl (cLI (pc := 50) h dX1_act_50 (cLa (pc := 52) h dX1_act_52 rfl (cLi (pc := 53) h dX1_act_53 rfl (kCi (pc := 54) h (kd_X1_181 h dX1_act_54) spX1_fullMinutes (by decide) (by decide) (by decide) (by decide) (kCv (pc := 57) h (kd_X1_193 h dX1_act_57) spX1_meetIfHere (by decide) (by decide) (by decide) (by decide) (jGo (pc := 60) h dX1_act_60 rfl (k40))))))))⟩, ⟨⟨_, rfl, k40⟩, ⟨⟨_, rfl, cLa (pc := 104) h dX1_act_104 rfl (cLi (pc := 105) h dX1_act_105 rfl (cLI (pc := 106) h dX1_act_106 (kCv (pc := 108) h (kd_X1_196 h dX1_act_108) spX1_meetOneBehind (by decide) (by decide) (by decide) (by decide) (jGo (pc := 111) h dX1_act_111 rfl (k40)))))⟩, ⟨⟨_, rfl, cLa (pc := 63) h dX1_act_63 rfl (cLi (pc := 64) h dX1_act_64 rfl (cLI (pc := 65) h dX1_act_65 (cLi (pc := 67) h dX1_act_67 rfl (cLa (pc := 68) h dX1_act_68 rfl (gGf (pc := 69) h dX1_act_69 ff_X1_56_80 (Nat.le_of_ble_eq_true rfl) (Nat.le_of_ble_eq_true rfl) rfl (kCi (pc := 72) h (kd_X1_111 h dX1_act_72) spX7_slotMinutes (by decide) (by decide) (by decide) (by decide) (kCi (pc := 75) h (kd_X1_88 h dX1_act_75) spJ9_min_7cf53 (by decide) (by decide) (by decide) (by decide) (kCv (pc := 78) h (kd_X1_193 h dX1_act_78) spX1_meetIfHere (by decide) (by decide) (by decide) (by decide) (jGo (pc := 81) h dX1_act_81 rfl (k40))))))))))⟩, ⟨⟨_, rfl, cLa (pc := 84) h dX1_act_84 rfl (gGf (pc := 85) h dX1_act_85 ff_X1_35_80 (Nat.le_of_ble_eq_true rfl) (Nat.le_of_ble_eq_true rfl) rfl (cLa (pc := 88) h dX1_act_88 rfl (gGf (pc := 89) h dX1_act_89 ff_X1_68_80 (Nat.le_of_ble_eq_true rfl) (Nat.le_of_ble_eq_true rfl) rfl (cLi (pc := 92) h dX1_act_92 rfl (kCi (pc := 93) h (kd_X1_159 h dX1_act_93) spX4_teacherOf (by decide) (by decide) (by decide) (by decide) (cLI (pc := 96) h dX1_act_96 (cLi (pc := 98) h dX1_act_98 rfl (aAdd (pc := 99) h dX1_act_99 (rWi (pc := 100) h dX1_act_100 rfl (Nat.le_of_ble_eq_true rfl) (Nat.le_of_ble_eq_true rfl) (jGo (pc := 101) h dX1_act_101 rfl (k40)))))))))))⟩, trivial⟩⟩⟩⟩⟩⟩)
set_option maxRecDepth 20000 in
theorem lX1_act_0 (a1 : Int32) (a2 : Int32) (a3 : Int32) (a4 : Int32) (m : qM) : tX1_act_0 (wX1_act_40 fX1_act_40) [some (.ref 80), some (.int a1), some (.int a2), some (.int a3), some (.int a4)] [] m = fX1_act_0 a1 a2 a3 a4 m := rfl
noncomputable def GX1_act : qG Unit := fun av m => match av with
  | [.ref 80, .int a1, .int a2, .int a3, .int a4] => fX1_act a1 a2 a3 a4 m
  | _ => none
theorem spX1_act : qSpV yX1_act (.code yX1_act cX1_act 5 none) 3 qfin 155 155 1 GX1_act := by
  intro av m m' hG
  unfold GX1_act at hG
  split at hG
  · rename_i a1 a2 a3 a4
    rw [fX1_act_d] at hG
    exact ⟨qmeet (J := jV) (r := ((), m')) (av := [.ref 80, .int a1, .int a2, .int a3, .int a4]) (by decide +kernel) (Nat.le_of_ble_eq_true rfl) (fun C w h hm hx hn => sX1_act_0 h hm hx (bX1_act_40 h hm hx)) ((lX1_act_0 _ _ _ _ _).trans hG) (Nat.le_of_ble_eq_true rfl), Or.inl ⟨80, _, 1, _, _, rfl, by decide, rfl, qCk_1, rfl⟩⟩
  · cases hG
theorem im_X9_awayUpTo : Jvm.Cond.instanceMethod yX9_awayUpTo ∈ qTw := qm5 (List.mem_of_getElem? (i := 144) (by decide +kernel)) (by decide +kernel)
theorem se_X9_awayUpTo : Jvm.Cond.selects yX9_awayUpTo.cls yX9_awayUpTo yX9_awayUpTo ∈ qTw := qm5 (List.mem_of_getElem? (i := 145) (by decide +kernel)) (by decide +kernel)
theorem co_X9_awayUpTo : Jvm.Cond.code yX9_awayUpTo cX9_awayUpTo 5 (some .int) ∈ qTw := qm5 (List.mem_of_getElem? (i := 146) (by decide +kernel)) (by decide +kernel)
theorem yk_X9_awayUpTo : qYk yX9_awayUpTo 3 := ⟨⟨by decide +kernel, by decide +kernel⟩, by decide +kernel⟩
theorem ml_X1_123 : Jvm.Cond.methodLink RX1 123 yX9_awayUpTo ∈ qTw := qm5 (List.mem_of_getElem? (i := 143) (by decide +kernel)) (by decide +kernel)
theorem kd_X1_123 {C : qCx} {w : qWp} {cc : ByteArray} {nL dp n0 n1 pc : Nat} (h : qOk C w RX1 cc nL dp n0 n1) (d : decode cc pc = .ok (.invokevirtual 123, 3)) : qCallOk C w nL dp n0 n1 pc 4 1 yX9_awayUpTo (.code yX9_awayUpTo cX9_awayUpTo 5 (some .int)) := kindV h d ml_X1_123 im_X9_awayUpTo se_X9_awayUpTo in_ParentEve_Tellings co_X9_awayUpTo yk_X9_awayUpTo (by decide)
theorem im_X10_policyOf : Jvm.Cond.instanceMethod yX10_policyOf ∈ qTw := qm5 (List.mem_of_getElem? (i := 153) (by decide +kernel)) (by decide +kernel)
theorem se_X10_policyOf : Jvm.Cond.selects yX10_policyOf.cls yX10_policyOf yX10_policyOf ∈ qTw := qm5 (List.mem_of_getElem? (i := 154) (by decide +kernel)) (by decide +kernel)
theorem co_X10_policyOf : Jvm.Cond.code yX10_policyOf cX10_policyOf 3 (some (.object "ParentEve$Policy")) ∈ qTw := qm5 (List.mem_of_getElem? (i := 155) (by decide +kernel)) (by decide +kernel)
theorem yk_X10_policyOf : qYk yX10_policyOf 1 := ⟨⟨by decide +kernel, by decide +kernel⟩, by decide +kernel⟩
theorem ml_X1_130 : Jvm.Cond.methodLink RX1 130 yX10_policyOf ∈ qTw := qm5 (List.mem_of_getElem? (i := 152) (by decide +kernel)) (by decide +kernel)
theorem kd_X1_130 {C : qCx} {w : qWp} {cc : ByteArray} {nL dp n0 n1 pc : Nat} (h : qOk C w RX1 cc nL dp n0 n1) (d : decode cc pc = .ok (.invokevirtual 130, 3)) : qCallOk C w nL dp n0 n1 pc 2 1 yX10_policyOf (.code yX10_policyOf cX10_policyOf 3 (some (.object "ParentEve$Policy"))) := kindV h d ml_X1_130 im_X10_policyOf se_X10_policyOf in_ParentEve_Ways co_X10_policyOf yk_X10_policyOf (by decide)
theorem im_X1_gatherFacts : Jvm.Cond.instanceMethod yX1_gatherFacts ∈ qTw := qm5 (List.mem_of_getElem? (i := 158) (by decide +kernel)) (by decide +kernel)
theorem se_X1_gatherFacts : Jvm.Cond.selects yX1_gatherFacts.cls yX1_gatherFacts yX1_gatherFacts ∈ qTw := List.mem_filter.mpr ⟨List.mem_append_left _ (List.mem_of_getElem? (i := 22) (by decide +kernel)), rfl⟩
theorem co_X1_gatherFacts : Jvm.Cond.code yX1_gatherFacts cX1_gatherFacts 7 none ∈ qTw := qm5 (List.mem_of_getElem? (i := 159) (by decide +kernel)) (by decide +kernel)
theorem yk_X1_gatherFacts : qYk yX1_gatherFacts 2 := ⟨⟨by decide +kernel, by decide +kernel⟩, by decide +kernel⟩
theorem ml_X1_136 : Jvm.Cond.methodLink RX1 136 yX1_gatherFacts ∈ qTw := qm5 (List.mem_of_getElem? (i := 156) (by decide +kernel)) (by decide +kernel)
theorem kd_X1_136 {C : qCx} {w : qWp} {cc : ByteArray} {nL dp n0 n1 pc : Nat} (h : qOk C w RX1 cc nL dp n0 n1) (d : decode cc pc = .ok (.invokevirtual 136, 3)) : qCallOk C w nL dp n0 n1 pc 3 1 yX1_gatherFacts (.code yX1_gatherFacts cX1_gatherFacts 7 none) := kindV h d ml_X1_136 im_X1_gatherFacts se_X1_gatherFacts in_ParentEve_Evening co_X1_gatherFacts yk_X1_gatherFacts (by decide)
theorem im_X5_lineThatHolds : Jvm.Cond.instanceMethod yX5_lineThatHolds ∈ qTw := qm5 (List.mem_of_getElem? (i := 174) (by decide +kernel)) (by decide +kernel)
theorem se_X5_lineThatHolds : Jvm.Cond.selects yX5_lineThatHolds.cls yX5_lineThatHolds yX5_lineThatHolds ∈ qTw := qm5 (List.mem_of_getElem? (i := 175) (by decide +kernel)) (by decide +kernel)
theorem co_X5_lineThatHolds : Jvm.Cond.code yX5_lineThatHolds cX5_lineThatHolds 5 (some .int) ∈ qTw := qm5 (List.mem_of_getElem? (i := 176) (by decide +kernel)) (by decide +kernel)
theorem yk_X5_lineThatHolds : qYk yX5_lineThatHolds 1 := ⟨⟨by decide +kernel, by decide +kernel⟩, by decide +kernel⟩
theorem ml_X1_139 : Jvm.Cond.methodLink RX1 139 yX5_lineThatHolds ∈ qTw := qm5 (List.mem_of_getElem? (i := 173) (by decide +kernel)) (by decide +kernel)
theorem kd_X1_139 {C : qCx} {w : qWp} {cc : ByteArray} {nL dp n0 n1 pc : Nat} (h : qOk C w RX1 cc nL dp n0 n1) (d : decode cc pc = .ok (.invokevirtual 139, 3)) : qCallOk C w nL dp n0 n1 pc 2 1 yX5_lineThatHolds (.code yX5_lineThatHolds cX5_lineThatHolds 5 (some .int)) := kindV h d ml_X1_139 im_X5_lineThatHolds se_X5_lineThatHolds in_ParentEve_Policy co_X5_lineThatHolds yk_X5_lineThatHolds (by decide)
theorem im_X1_actPlainly : Jvm.Cond.instanceMethod yX1_actPlainly ∈ qTw := qm5 (List.mem_of_getElem? (i := 184) (by decide +kernel)) (by decide +kernel)
theorem se_X1_actPlainly : Jvm.Cond.selects yX1_actPlainly.cls yX1_actPlainly yX1_actPlainly ∈ qTw := List.mem_filter.mpr ⟨List.mem_append_left _ (List.mem_of_getElem? (i := 25) (by decide +kernel)), rfl⟩
theorem co_X1_actPlainly : Jvm.Cond.code yX1_actPlainly cX1_actPlainly 4 none ∈ qTw := qm5 (List.mem_of_getElem? (i := 185) (by decide +kernel)) (by decide +kernel)
theorem yk_X1_actPlainly : qYk yX1_actPlainly 3 := ⟨⟨by decide +kernel, by decide +kernel⟩, by decide +kernel⟩
theorem ml_X1_145 : Jvm.Cond.methodLink RX1 145 yX1_actPlainly ∈ qTw := qm5 (List.mem_of_getElem? (i := 182) (by decide +kernel)) (by decide +kernel)
theorem kd_X1_145 {C : qCx} {w : qWp} {cc : ByteArray} {nL dp n0 n1 pc : Nat} (h : qOk C w RX1 cc nL dp n0 n1) (d : decode cc pc = .ok (.invokevirtual 145, 3)) : qCallOk C w nL dp n0 n1 pc 4 1 yX1_actPlainly (.code yX1_actPlainly cX1_actPlainly 4 none) := kindV h d ml_X1_145 im_X1_actPlainly se_X1_actPlainly in_ParentEve_Evening co_X1_actPlainly yk_X1_actPlainly (by decide)
theorem im_X5_actOf : Jvm.Cond.instanceMethod yX5_actOf ∈ qTw := qm5 (List.mem_of_getElem? (i := 201) (by decide +kernel)) (by decide +kernel)
theorem se_X5_actOf : Jvm.Cond.selects yX5_actOf.cls yX5_actOf yX5_actOf ∈ qTw := qm5 (List.mem_of_getElem? (i := 202) (by decide +kernel)) (by decide +kernel)
theorem co_X5_actOf : Jvm.Cond.code yX5_actOf cX5_actOf 2 (some .int) ∈ qTw := qm5 (List.mem_of_getElem? (i := 203) (by decide +kernel)) (by decide +kernel)
theorem yk_X5_actOf : qYk yX5_actOf 1 := ⟨⟨by decide +kernel, by decide +kernel⟩, by decide +kernel⟩
theorem ml_X1_149 : Jvm.Cond.methodLink RX1 149 yX5_actOf ∈ qTw := qm5 (List.mem_of_getElem? (i := 200) (by decide +kernel)) (by decide +kernel)
theorem kd_X1_149 {C : qCx} {w : qWp} {cc : ByteArray} {nL dp n0 n1 pc : Nat} (h : qOk C w RX1 cc nL dp n0 n1) (d : decode cc pc = .ok (.invokevirtual 149, 3)) : qCallOk C w nL dp n0 n1 pc 2 1 yX5_actOf (.code yX5_actOf cX5_actOf 2 (some .int)) := kindV h d ml_X1_149 im_X5_actOf se_X5_actOf in_ParentEve_Policy co_X5_actOf yk_X5_actOf (by decide)
theorem im_X5_actNumberOf : Jvm.Cond.instanceMethod yX5_actNumberOf ∈ qTw := qm5 (List.mem_of_getElem? (i := 205) (by decide +kernel)) (by decide +kernel)
theorem se_X5_actNumberOf : Jvm.Cond.selects yX5_actNumberOf.cls yX5_actNumberOf yX5_actNumberOf ∈ qTw := qm5 (List.mem_of_getElem? (i := 206) (by decide +kernel)) (by decide +kernel)
theorem co_X5_actNumberOf : Jvm.Cond.code yX5_actNumberOf cX5_actNumberOf 2 (some .int) ∈ qTw := qm5 (List.mem_of_getElem? (i := 207) (by decide +kernel)) (by decide +kernel)
theorem yk_X5_actNumberOf : qYk yX5_actNumberOf 1 := ⟨⟨by decide +kernel, by decide +kernel⟩, by decide +kernel⟩
theorem ml_X1_152 : Jvm.Cond.methodLink RX1 152 yX5_actNumberOf ∈ qTw := qm5 (List.mem_of_getElem? (i := 204) (by decide +kernel)) (by decide +kernel)
theorem kd_X1_152 {C : qCx} {w : qWp} {cc : ByteArray} {nL dp n0 n1 pc : Nat} (h : qOk C w RX1 cc nL dp n0 n1) (d : decode cc pc = .ok (.invokevirtual 152, 3)) : qCallOk C w nL dp n0 n1 pc 2 1 yX5_actNumberOf (.code yX5_actNumberOf cX5_actNumberOf 2 (some .int)) := kindV h d ml_X1_152 im_X5_actNumberOf se_X5_actNumberOf in_ParentEve_Policy co_X5_actNumberOf yk_X5_actNumberOf (by decide)
theorem im_X1_act : Jvm.Cond.instanceMethod yX1_act ∈ qTw := qm5 (List.mem_of_getElem? (i := 210) (by decide +kernel)) (by decide +kernel)
theorem se_X1_act : Jvm.Cond.selects yX1_act.cls yX1_act yX1_act ∈ qTw := List.mem_filter.mpr ⟨List.mem_append_left _ (List.mem_of_getElem? (i := 29) (by decide +kernel)), rfl⟩
theorem co_X1_act : Jvm.Cond.code yX1_act cX1_act 5 none ∈ qTw := qm5 (List.mem_of_getElem? (i := 211) (by decide +kernel)) (by decide +kernel)
theorem yk_X1_act : qYk yX1_act 4 := ⟨⟨by decide +kernel, by decide +kernel⟩, by decide +kernel⟩
theorem ml_X1_155 : Jvm.Cond.methodLink RX1 155 yX1_act ∈ qTw := qm5 (List.mem_of_getElem? (i := 208) (by decide +kernel)) (by decide +kernel)
theorem kd_X1_155 {C : qCx} {w : qWp} {cc : ByteArray} {nL dp n0 n1 pc : Nat} (h : qOk C w RX1 cc nL dp n0 n1) (d : decode cc pc = .ok (.invokevirtual 155, 3)) : qCallOk C w nL dp n0 n1 pc 5 1 yX1_act (.code yX1_act cX1_act 5 none) := kindV h d ml_X1_155 im_X1_act se_X1_act in_ParentEve_Evening co_X1_act yk_X1_act (by decide)
theorem dX1_look_0 : decode cX1_look 0 = .ok (.aload_n 0, 1) := by decide +kernel
theorem dX1_look_1 : decode cX1_look 1 = .ok (.getfield 32, 3) := by decide +kernel
theorem dX1_look_4 : decode cX1_look 4 = .ok (.iload_n 1, 1) := by decide +kernel
theorem dX1_look_5 : decode cX1_look 5 = .ok (.iaload, 1) := by decide +kernel
theorem dX1_look_6 : decode cX1_look 6 = .ok (.ifCond .ne 13, 3) := by decide +kernel
theorem dX1_look_9 : decode cX1_look 9 = .ok (.aload_n 0, 1) := by decide +kernel
theorem dX1_look_10 : decode cX1_look 10 = .ok (.getfield 35, 3) := by decide +kernel
theorem dX1_look_13 : decode cX1_look 13 = .ok (.iload_n 1, 1) := by decide +kernel
theorem dX1_look_14 : decode cX1_look 14 = .ok (.sipush 800, 3) := by decide +kernel
theorem dX1_look_17 : decode cX1_look 17 = .ok (.iastore, 1) := by decide +kernel
theorem dX1_look_18 : decode cX1_look 18 = .ok (.return_, 1) := by decide +kernel
theorem dX1_look_19 : decode cX1_look 19 = .ok (.aload_n 0, 1) := by decide +kernel
theorem dX1_look_20 : decode cX1_look 20 = .ok (.getfield 32, 3) := by decide +kernel
theorem dX1_look_23 : decode cX1_look 23 = .ok (.iload_n 1, 1) := by decide +kernel
theorem dX1_look_24 : decode cX1_look 24 = .ok (.iaload, 1) := by decide +kernel
theorem dX1_look_25 : decode cX1_look 25 = .ok (.invokestatic 108, 3) := by decide +kernel
theorem dX1_look_28 : decode cX1_look 28 = .ok (.istore_n 3, 1) := by decide +kernel
theorem dX1_look_29 : decode cX1_look 29 = .ok (.iload_n 3, 1) := by decide +kernel
theorem dX1_look_30 : decode cX1_look 30 = .ok (.aload_n 0, 1) := by decide +kernel
theorem dX1_look_31 : decode cX1_look 31 = .ok (.getfield 56, 3) := by decide +kernel
theorem dX1_look_34 : decode cX1_look 34 = .ok (.invokevirtual 111, 3) := by decide +kernel
theorem dX1_look_37 : decode cX1_look 37 = .ok (.imul, 1) := by decide +kernel
theorem dX1_look_38 : decode cX1_look 38 = .ok (.istore 4, 2) := by decide +kernel
theorem dX1_look_40 : decode cX1_look 40 = .ok (.iload_n 2, 1) := by decide +kernel
theorem dX1_look_41 : decode cX1_look 41 = .ok (.iload 4, 2) := by decide +kernel
theorem dX1_look_43 : decode cX1_look 43 = .ok (.if_icmp .ge 12, 3) := by decide +kernel
theorem dX1_look_46 : decode cX1_look 46 = .ok (.aload_n 0, 1) := by decide +kernel
theorem dX1_look_47 : decode cX1_look 47 = .ok (.getfield 35, 3) := by decide +kernel
theorem dX1_look_50 : decode cX1_look 50 = .ok (.iload_n 1, 1) := by decide +kernel
theorem dX1_look_51 : decode cX1_look 51 = .ok (.iload 4, 2) := by decide +kernel
theorem dX1_look_53 : decode cX1_look 53 = .ok (.iastore, 1) := by decide +kernel
theorem dX1_look_54 : decode cX1_look 54 = .ok (.return_, 1) := by decide +kernel
theorem dX1_look_55 : decode cX1_look 55 = .ok (.aload_n 0, 1) := by decide +kernel
theorem dX1_look_56 : decode cX1_look 56 = .ok (.getfield 72, 3) := by decide +kernel
theorem dX1_look_59 : decode cX1_look 59 = .ok (.iload_n 1, 1) := by decide +kernel
theorem dX1_look_60 : decode cX1_look 60 = .ok (.iload_n 2, 1) := by decide +kernel
theorem dX1_look_61 : decode cX1_look 61 = .ok (.aload_n 0, 1) := by decide +kernel
theorem dX1_look_62 : decode cX1_look 62 = .ok (.getfield 26, 3) := by decide +kernel
theorem dX1_look_65 : decode cX1_look 65 = .ok (.invokevirtual 123, 3) := by decide +kernel
theorem dX1_look_68 : decode cX1_look 68 = .ok (.istore 5, 2) := by decide +kernel
theorem dX1_look_70 : decode cX1_look 70 = .ok (.iload 5, 2) := by decide +kernel
theorem dX1_look_72 : decode cX1_look 72 = .ok (.iconst (-1), 1) := by decide +kernel
theorem dX1_look_73 : decode cX1_look 73 = .ok (.if_icmp .eq 14, 3) := by decide +kernel
theorem dX1_look_76 : decode cX1_look 76 = .ok (.aload_n 0, 1) := by decide +kernel
theorem dX1_look_77 : decode cX1_look 77 = .ok (.getfield 35, 3) := by decide +kernel
theorem dX1_look_80 : decode cX1_look 80 = .ok (.iload_n 1, 1) := by decide +kernel
theorem dX1_look_81 : decode cX1_look 81 = .ok (.iload 5, 2) := by decide +kernel
theorem dX1_look_83 : decode cX1_look 83 = .ok (.iconst 1, 1) := by decide +kernel
theorem dX1_look_84 : decode cX1_look 84 = .ok (.iadd, 1) := by decide +kernel
theorem dX1_look_85 : decode cX1_look 85 = .ok (.iastore, 1) := by decide +kernel
theorem dX1_look_86 : decode cX1_look 86 = .ok (.return_, 1) := by decide +kernel
theorem dX1_look_87 : decode cX1_look 87 = .ok (.aload_n 0, 1) := by decide +kernel
theorem dX1_look_88 : decode cX1_look 88 = .ok (.getfield 68, 3) := by decide +kernel
theorem dX1_look_91 : decode cX1_look 91 = .ok (.iload_n 1, 1) := by decide +kernel
theorem dX1_look_92 : decode cX1_look 92 = .ok (.iload_n 3, 1) := by decide +kernel
theorem dX1_look_93 : decode cX1_look 93 = .ok (.invokevirtual 127, 3) := by decide +kernel
theorem dX1_look_96 : decode cX1_look 96 = .ok (.istore 6, 2) := by decide +kernel
theorem dX1_look_98 : decode cX1_look 98 = .ok (.aload_n 0, 1) := by decide +kernel
theorem dX1_look_99 : decode cX1_look 99 = .ok (.getfield 60, 3) := by decide +kernel
theorem dX1_look_102 : decode cX1_look 102 = .ok (.iload_n 1, 1) := by decide +kernel
theorem dX1_look_103 : decode cX1_look 103 = .ok (.invokevirtual 130, 3) := by decide +kernel
theorem dX1_look_106 : decode cX1_look 106 = .ok (.astore 7, 2) := by decide +kernel
theorem dX1_look_108 : decode cX1_look 108 = .ok (.iconst (-1), 1) := by decide +kernel
theorem dX1_look_109 : decode cX1_look 109 = .ok (.istore 8, 2) := by decide +kernel
theorem dX1_look_111 : decode cX1_look 111 = .ok (.aload 7, 2) := by decide +kernel
theorem dX1_look_113 : decode cX1_look 113 = .ok (.ifnull 21, 3) := by decide +kernel
theorem dX1_look_116 : decode cX1_look 116 = .ok (.aload_n 0, 1) := by decide +kernel
theorem dX1_look_117 : decode cX1_look 117 = .ok (.iload 6, 2) := by decide +kernel
theorem dX1_look_119 : decode cX1_look 119 = .ok (.iload_n 2, 1) := by decide +kernel
theorem dX1_look_120 : decode cX1_look 120 = .ok (.invokevirtual 136, 3) := by decide +kernel
theorem dX1_look_123 : decode cX1_look 123 = .ok (.aload 7, 2) := by decide +kernel
theorem dX1_look_125 : decode cX1_look 125 = .ok (.aload_n 0, 1) := by decide +kernel
theorem dX1_look_126 : decode cX1_look 126 = .ok (.getfield 29, 3) := by decide +kernel
theorem dX1_look_129 : decode cX1_look 129 = .ok (.invokevirtual 139, 3) := by decide +kernel
theorem dX1_look_132 : decode cX1_look 132 = .ok (.istore 8, 2) := by decide +kernel
theorem dX1_look_134 : decode cX1_look 134 = .ok (.aload 7, 2) := by decide +kernel
theorem dX1_look_136 : decode cX1_look 136 = .ok (.ifnull 9, 3) := by decide +kernel
theorem dX1_look_139 : decode cX1_look 139 = .ok (.iload 8, 2) := by decide +kernel
theorem dX1_look_141 : decode cX1_look 141 = .ok (.iconst (-1), 1) := by decide +kernel
theorem dX1_look_142 : decode cX1_look 142 = .ok (.if_icmp .ne 17, 3) := by decide +kernel
theorem dX1_look_145 : decode cX1_look 145 = .ok (.aload_n 0, 1) := by decide +kernel
theorem dX1_look_146 : decode cX1_look 146 = .ok (.iload 6, 2) := by decide +kernel
theorem dX1_look_148 : decode cX1_look 148 = .ok (.iload_n 2, 1) := by decide +kernel
theorem dX1_look_149 : decode cX1_look 149 = .ok (.iload_n 2, 1) := by decide +kernel
theorem dX1_look_150 : decode cX1_look 150 = .ok (.iload 4, 2) := by decide +kernel
theorem dX1_look_152 : decode cX1_look 152 = .ok (.isub, 1) := by decide +kernel
theorem dX1_look_153 : decode cX1_look 153 = .ok (.invokevirtual 145, 3) := by decide +kernel
theorem dX1_look_156 : decode cX1_look 156 = .ok (.goto 24, 3) := by decide +kernel
theorem dX1_look_159 : decode cX1_look 159 = .ok (.aload_n 0, 1) := by decide +kernel
theorem dX1_look_160 : decode cX1_look 160 = .ok (.aload 7, 2) := by decide +kernel
theorem dX1_look_162 : decode cX1_look 162 = .ok (.iload 8, 2) := by decide +kernel
theorem dX1_look_164 : decode cX1_look 164 = .ok (.invokevirtual 149, 3) := by decide +kernel
theorem dX1_look_167 : decode cX1_look 167 = .ok (.aload 7, 2) := by decide +kernel
theorem dX1_look_169 : decode cX1_look 169 = .ok (.iload 8, 2) := by decide +kernel
theorem dX1_look_171 : decode cX1_look 171 = .ok (.invokevirtual 152, 3) := by decide +kernel
theorem dX1_look_174 : decode cX1_look 174 = .ok (.iload 6, 2) := by decide +kernel
theorem dX1_look_176 : decode cX1_look 176 = .ok (.iload_n 2, 1) := by decide +kernel
theorem dX1_look_177 : decode cX1_look 177 = .ok (.invokevirtual 155, 3) := by decide +kernel
theorem dX1_look_180 : decode cX1_look 180 = .ok (.return_, 1) := by decide +kernel
noncomputable def tX1_look_98 : qT (Unit × qM) :=
  eV
noncomputable def wX1_look_98 (k : qM → Option (Unit × qM)) : qT (Unit × qM) := fun lo st m => match lo, st with
  | [_, _, _, _, _, _, _, _, _], [] => k m
  | _, _ => none
set_option maxRecDepth 20000 in
theorem sX1_look_98 {C : qCx} {w : qWp} (h : qOk C w RX1 cX1_look 9 4 155 155) (hm : qMt C none) (hx : qNx C) : qSnd C w 9 155 (qQf C w 155 155 jV) qfin 155 180 (tX1_look_98) :=
  zV (pc := 180) h hm (Nat.le_refl _) dX1_look_180
set_option maxRecDepth 20000 in
theorem lX1_look_98 (m : qM) : tX1_look_98 [none, none, none, none, none, none, none, none, none] [] m = fX1_look_98 m := rfl
theorem bX1_look_98 {C : qCx} {w : qWp} (h : qOk C w RX1 cX1_look 9 4 155 155) (hm : qMt C none) (hx : qNx C) : qSnd C w 9 155 (qQf C w 155 155 jV) qfin 155 180 (wX1_look_98 fX1_look_98) :=
  qSnd_of (fun lo st m x hr0 => by
    unfold wX1_look_98 at hr0
    split at hr0
    · exact ⟨_, (qsub_n (qsub_n (qsub_n (qsub_n (qsub_n (qsub_n (qsub_n (qsub_n (qsub_n qsub_nil))))))))), (lX1_look_98 _).trans hr0⟩
    · cases hr0) (sX1_look_98 h hm hx)
noncomputable def tX1_look_80 (j98 : qT (Unit × qM)) : qT (Unit × qM) :=
  oLa 0 (oLi 6 (oLi 2 (oLi 2 (oLi 4 (o2 (· - ·) (oCv GX1_actPlainly 4 (j98)))))))
noncomputable def wX1_look_80 (k : Int32 → Int32 → Int32 → qM → Option (Unit × qM)) : qT (Unit × qM) := fun lo st m => match lo, st with
  | [some (.ref 80), _, some (.int a2), _, some (.int a4), _, some (.int a6), _, _], [] => k a2 a4 a6 m
  | _, _ => none
set_option maxRecDepth 20000 in
theorem sX1_look_80 {C : qCx} {w : qWp} (h : qOk C w RX1 cX1_look 9 4 155 155) (hm : qMt C none) (hx : qNx C) {j98 : qT (Unit × qM)} (k98 : qSnd C w 9 155 (qQf C w 155 155 jV) qfin 155 180 j98) : qSnd C w 9 155 (qQf C w 155 155 jV) qfin 155 145 (tX1_look_80 j98) :=
  cLa (pc := 145) h dX1_look_145 rfl (cLI (pc := 146) h dX1_look_146 (cLi (pc := 148) h dX1_look_148 rfl (cLi (pc := 149) h dX1_look_149 rfl (cLI (pc := 150) h dX1_look_150 (aSub (pc := 152) h dX1_look_152 (kCv (pc := 153) h (kd_X1_145 h dX1_look_153) spX1_actPlainly (by decide) (by decide) (by decide) (by decide) (jGo (pc := 156) h dX1_look_156 rfl (k98))))))))
set_option maxRecDepth 20000 in
theorem lX1_look_80 (a2 : Int32) (a4 : Int32) (a6 : Int32) (m : qM) : tX1_look_80 (wX1_look_98 fX1_look_98) [some (.ref 80), none, some (.int a2), none, some (.int a4), none, some (.int a6), none, none] [] m = fX1_look_80 a2 a4 a6 m := rfl
theorem bX1_look_80 {C : qCx} {w : qWp} (h : qOk C w RX1 cX1_look 9 4 155 155) (hm : qMt C none) (hx : qNx C) : qSnd C w 9 155 (qQf C w 155 155 jV) qfin 155 145 (wX1_look_80 fX1_look_80) :=
  qSnd_of (fun lo st m x hr0 => by
    unfold wX1_look_80 at hr0
    split at hr0
    · exact ⟨_, (qsub_e (qsub_n (qsub_e (qsub_n (qsub_e (qsub_n (qsub_e (qsub_n (qsub_n qsub_nil))))))))), (lX1_look_80 _ _ _ _).trans hr0⟩
    · cases hr0) (sX1_look_80 h hm hx (bX1_look_98 h hm hx))
noncomputable def tX1_look_75a (j80 : qT (Unit × qM)) : qT (Unit × qM) :=
  oLa 7 (oNull (j80) (fun _ _ _ => none))
noncomputable def wX1_look_75a (k : Int32 → Int32 → Int32 → Int32 → qM → Option (Unit × qM)) : qT (Unit × qM) := fun lo st m => match lo, st with
  | [some (.ref 80), _, some (.int a2), _, some (.int a4), _, some (.int a6), some .null, some (.int a8)], [] => k a2 a4 a6 a8 m
  | _, _ => none
set_option maxRecDepth 20000 in
theorem sX1_look_75a {C : qCx} {w : qWp} (h : qOk C w RX1 cX1_look 9 4 155 155) (hm : qMt C none) (hx : qNx C) {j80 : qT (Unit × qM)} (k80 : qSnd C w 9 155 (qQf C w 155 155 jV) qfin 155 145 j80) : qSnd C w 9 155 (qQf C w 155 155 jV) qfin 155 134 (tX1_look_75a j80) :=
  cLA (pc := 134) h dX1_look_134 (jNull (pc := 136) h dX1_look_136 rfl (k80) qSnd_no)
set_option maxRecDepth 20000 in
theorem lX1_look_75a (a2 : Int32) (a4 : Int32) (a6 : Int32) (a8 : Int32) (m : qM) : tX1_look_75a (wX1_look_80 fX1_look_80) [some (.ref 80), none, some (.int a2), none, some (.int a4), none, some (.int a6), some .null, some (.int a8)] [] m = fX1_look_75a a2 a4 a6 a8 m := rfl
theorem bX1_look_75a {C : qCx} {w : qWp} (h : qOk C w RX1 cX1_look 9 4 155 155) (hm : qMt C none) (hx : qNx C) : qSnd C w 9 155 (qQf C w 155 155 jV) qfin 155 134 (wX1_look_75a fX1_look_75a) :=
  qSnd_of (fun lo st m x hr0 => by
    unfold wX1_look_75a at hr0
    split at hr0
    · exact ⟨_, (qsub_e (qsub_n (qsub_e (qsub_n (qsub_e (qsub_n (qsub_e (qsub_e (qsub_e qsub_nil))))))))), (lX1_look_75a _ _ _ _ _).trans hr0⟩
    · cases hr0) (sX1_look_75a h hm hx (bX1_look_80 h hm hx))
noncomputable def tX1_look_75 (j98 : qT (Unit × qM)) (j80 : qT (Unit × qM)) : qT (Unit × qM) :=
  oLa 7 (oNull (j80) (oLi 8 (oC (.int (-1 : Int32)) (oCEq (j80) (oLa 0 (oLa 7 (oLi 8 (oCi GX5_actOf 2 (oLa 7 (oLi 8 (oCi GX5_actNumberOf 2 (oLi 6 (oLi 2 (oCv GX1_act 5 (j98)))))))))))))))
noncomputable def wX1_look_75 (k : Int32 → Int32 → Int32 → Nat → Int32 → qM → Option (Unit × qM)) : qT (Unit × qM) := fun lo st m => match lo, st with
  | [some (.ref 80), _, some (.int a2), _, some (.int a4), _, some (.int a6), some (.ref a7), some (.int a8)], [] => k a2 a4 a6 a7 a8 m
  | _, _ => none
set_option maxRecDepth 20000 in
theorem sX1_look_75 {C : qCx} {w : qWp} (h : qOk C w RX1 cX1_look 9 4 155 155) (hm : qMt C none) (hx : qNx C) {j98 : qT (Unit × qM)} {j80 : qT (Unit × qM)} (k98 : qSnd C w 9 155 (qQf C w 155 155 jV) qfin 155 180 j98) (k80 : qSnd C w 9 155 (qQf C w 155 155 jV) qfin 155 145 j80) : qSnd C w 9 155 (qQf C w 155 155 jV) qfin 155 134 (tX1_look_75 j98 j80) :=
  cLA (pc := 134) h dX1_look_134 (jNull (pc := 136) h dX1_look_136 rfl (k80) (cLI (pc := 139) h dX1_look_139 (cC (pc := 141) h dX1_look_141 rfl (jCNe (pc := 142) h dX1_look_142 rfl (cLa (pc := 159) h dX1_look_159 rfl (cLA (pc := 160) h dX1_look_160 (cLI (pc := 162) h dX1_look_162 (kCi (pc := 164) h (kd_X1_149 h dX1_look_164) spX5_actOf (by decide) (by decide) (by decide) (by decide) (cLA (pc := 167) h dX1_look_167 (cLI (pc := 169) h dX1_look_169 (kCi (pc := 171) h (kd_X1_152 h dX1_look_171) spX5_actNumberOf (by decide) (by decide) (by decide) (by decide) (cLI (pc := 174) h dX1_look_174 (cLi (pc := 176) h dX1_look_176 rfl (kCv (pc := 177) h (kd_X1_155 h dX1_look_177) spX1_act (by decide) (by decide) (by decide) (by decide) (k98))))))))))) (k80)))))
set_option maxRecDepth 20000 in
theorem lX1_look_75 (a2 : Int32) (a4 : Int32) (a6 : Int32) (a7 : Nat) (a8 : Int32) (m : qM) : tX1_look_75 (wX1_look_98 fX1_look_98) (wX1_look_80 fX1_look_80) [some (.ref 80), none, some (.int a2), none, some (.int a4), none, some (.int a6), some (.ref a7), some (.int a8)] [] m = fX1_look_75 a2 a4 a6 a7 a8 m := rfl
theorem bX1_look_75 {C : qCx} {w : qWp} (h : qOk C w RX1 cX1_look 9 4 155 155) (hm : qMt C none) (hx : qNx C) : qSnd C w 9 155 (qQf C w 155 155 jV) qfin 155 134 (wX1_look_75 fX1_look_75) :=
  qSnd_of (fun lo st m x hr0 => by
    unfold wX1_look_75 at hr0
    split at hr0
    · exact ⟨_, (qsub_e (qsub_n (qsub_e (qsub_n (qsub_e (qsub_n (qsub_e (qsub_e (qsub_e qsub_nil))))))))), (lX1_look_75 _ _ _ _ _ _).trans hr0⟩
    · cases hr0) (sX1_look_75 h hm hx (bX1_look_98 h hm hx) (bX1_look_80 h hm hx))
noncomputable def tX1_look_0 (j75 : qT (Unit × qM)) (j75a : qT (Unit × qM)) : qT (Unit × qM) :=
  oLa 0 (oGf 80 11 85 (oLi 1 (oAi 85 10 (oEq (oLa 0 (oGf 80 12 86 (oLi 1 (oC (.int (800 : Int32)) (oWi 86 10 (eV)))))) (oLa 0 (oGf 80 11 85 (oLi 1 (oAi 85 10 (oCi GX11_leastOf 1 (oSi 3 (oLi 3 (oLa 0 (oGf 80 0 4 (oCi GX7_slotMinutes 1 (o2 (· * ·) (oSi 4 (oLi 2 (oLi 4 (oCGe (oLa 0 (oGf 80 4 74 (oLi 1 (oLi 2 (oLa 0 (oGi 80 9 (oCi GX9_awayUpTo 4 (oSi 5 (oLi 5 (oC (.int (-1 : Int32)) (oCEq (oLa 0 (oGf 80 3 58 (oLi 1 (oLi 3 (oCi GX4_askIn 3 (oSi 6 (oLa 0 (oGf 80 1 7 (oLi 1 (oCr GX10_policyOf 2 (oSa 7 (oC (.int (-1 : Int32)) (oSi 8 (oLa 7 (oNull (j75a) (oLa 0 (oLi 6 (oLi 2 (oCv GX1_gatherFacts 3 (oLa 7 (oLa 0 (oGf 80 10 84 (oCi GX5_lineThatHolds 2 (oSi 8 (j75))))))))))))))))))))))))) (oLa 0 (oGf 80 12 86 (oLi 1 (oLi 5 (oC (.int (1 : Int32)) (o2 (· + ·) (oWi 86 10 (eV))))))))))))))))))) (oLa 0 (oGf 80 12 86 (oLi 1 (oLi 4 (oWi 86 10 (eV)))))))))))))))))))))))))
set_option maxRecDepth 20000 in
theorem sX1_look_0 {C : qCx} {w : qWp} (h : qOk C w RX1 cX1_look 9 4 155 155) (hm : qMt C none) (hx : qNx C) {j75 : qT (Unit × qM)} {j75a : qT (Unit × qM)} (k75 : qSnd C w 9 155 (qQf C w 155 155 jV) qfin 155 134 j75) (k75a : qSnd C w 9 155 (qQf C w 155 155 jV) qfin 155 134 j75a) : qSnd C w 9 155 (qQf C w 155 155 jV) qfin 155 0 (tX1_look_0 j75 j75a) :=
  cLa (pc := 0) h dX1_look_0 rfl (gGf (pc := 1) h dX1_look_1 ff_X1_32_80 (Nat.le_of_ble_eq_true rfl) (Nat.le_of_ble_eq_true rfl) rfl (cLi (pc := 4) h dX1_look_4 rfl (rAi (pc := 5) h dX1_look_5 rfl (Nat.le_of_ble_eq_true rfl) (Nat.le_of_ble_eq_true rfl) (jNe (pc := 6) h dX1_look_6 rfl (cLa (pc := 19) h dX1_look_19 rfl (gGf (pc := 20) h dX1_look_20 ff_X1_32_80 (Nat.le_of_ble_eq_true rfl) (Nat.le_of_ble_eq_true rfl) rfl (cLi (pc := 23) h dX1_look_23 rfl (rAi (pc := 24) h dX1_look_24 rfl (Nat.le_of_ble_eq_true rfl) (Nat.le_of_ble_eq_true rfl) (kCi (pc := 25) h (kd_X1_108 h dX1_look_25) spX11_leastOf (by decide) (by decide) (by decide) (by decide) (cSi (pc := 28) h dX1_look_28 rfl (cLi (pc := 29) h dX1_look_29 rfl (cLa (pc := 30) h dX1_look_30 rfl (gGf (pc := 31) h dX1_look_31 ff_X1_56_80 (Nat.le_of_ble_eq_true rfl) (Nat.le_of_ble_eq_true rfl) rfl (kCi (pc := 34) h (kd_X1_111 h dX1_look_34) spX7_slotMinutes (by decide) (by decide) (by decide) (by decide) (aMul (pc := 37) h dX1_look_37 (cSI (pc := 38) h dX1_look_38 (cLi (pc := 40) h dX1_look_40 rfl (cLI (pc := 41) h dX1_look_41 (jCGe (pc := 43) h dX1_look_43 rfl (cLa (pc := 55) h dX1_look_55 rfl (gGf (pc := 56) h dX1_look_56 ff_X1_72_80 (Nat.le_of_ble_eq_true rfl) (Nat.le_of_ble_eq_true rfl) rfl (cLi (pc := 59) h dX1_look_59 rfl (cLi (pc := 60) h dX1_look_60 rfl (cLa (pc := 61) h dX1_look_61 rfl (gGi (pc := 62) h dX1_look_62 ff_X1_26_80 (Nat.le_of_ble_eq_true rfl) (Nat.le_of_ble_eq_true rfl) (kCi (pc := 65) h (kd_X1_123 h dX1_look_65) spX9_awayUpTo (by decide) (by decide) (by decide) (by decide) (cSI (pc := 68) h dX1_look_68 (cLI (pc := 70) h dX1_look_70 (cC (pc := 72) h dX1_look_72 rfl (jCEq (pc := 73) h dX1_look_73 rfl (cLa (pc := 87) h dX1_look_87 rfl (gGf (pc := 88) h dX1_look_88 ff_X1_68_80 (Nat.le_of_ble_eq_true rfl) (Nat.le_of_ble_eq_true rfl) rfl (cLi (pc := 91) h dX1_look_91 rfl (cLi (pc := 92) h dX1_look_92 rfl (kCi (pc := 93) h (kd_X1_127 h dX1_look_93) spX4_askIn (by decide) (by decide) (by decide) (by decide) (cSI (pc := 96) h dX1_look_96 (cLa (pc := 98) h dX1_look_98 rfl (gGf (pc := 99) h dX1_look_99 ff_X1_60_80 (Nat.le_of_ble_eq_true rfl) (Nat.le_of_ble_eq_true rfl) rfl (cLi (pc := 102) h dX1_look_102 rfl (kCr (pc := 103) h (kd_X1_130 h dX1_look_103) spX10_policyOf (by decide) (by decide) (by decide) (by decide) (cSA (pc := 106) h dX1_look_106 (cC (pc := 108) h dX1_look_108 rfl (cSI (pc := 109) h dX1_look_109 (cLA (pc := 111) h dX1_look_111 (jNull (pc := 113) h dX1_look_113 rfl (k75a) (cLa (pc := 116) h dX1_look_116 rfl (cLI (pc := 117) h dX1_look_117 (cLi (pc := 119) h dX1_look_119 rfl (kCv (pc := 120) h (kd_X1_136 h dX1_look_120) spX1_gatherFacts (by decide) (by decide) (by decide) (by decide) (cLA (pc := 123) h dX1_look_123 (cLa (pc := 125) h dX1_look_125 rfl (gGf (pc := 126) h dX1_look_126 ff_X1_29_80 (Nat.le_of_ble_eq_true rfl) (Nat.le_of_ble_eq_true rfl) rfl (kCi (pc := 129) h (kd_X1_139 h dX1_look_129) spX5_lineThatHolds (by decide) (by decide) (by decide) (by decide) (cSI (pc := 132) h dX1_look_132 (k75))))))))))))))))))))))))) (cLa (pc := 76) h dX1_look_76 rfl (gGf (pc := 77) h dX1_look_77 ff_X1_35_80 (Nat.le_of_ble_eq_true rfl) (Nat.le_of_ble_eq_true rfl) rfl (cLi (pc := 80) h dX1_look_80 rfl (cLI (pc := 81) h dX1_look_81 (cC (pc := 83) h dX1_look_83 rfl (aAdd (pc := 84) h dX1_look_84 (rWi (pc := 85) h dX1_look_85 rfl (Nat.le_of_ble_eq_true rfl) (Nat.le_of_ble_eq_true rfl) (zV (pc := 86) h hm (Nat.le_refl _) dX1_look_86))))))))))))))))))) (cLa (pc := 46) h dX1_look_46 rfl (gGf (pc := 47) h dX1_look_47 ff_X1_35_80 (Nat.le_of_ble_eq_true rfl) (Nat.le_of_ble_eq_true rfl) rfl (cLi (pc := 50) h dX1_look_50 rfl (cLI (pc := 51) h dX1_look_51 (rWi (pc := 53) h dX1_look_53 rfl (Nat.le_of_ble_eq_true rfl) (Nat.le_of_ble_eq_true rfl) (zV (pc := 54) h hm (Nat.le_refl _) dX1_look_54))))))))))))))))))))) (cLa (pc := 9) h dX1_look_9 rfl (gGf (pc := 10) h dX1_look_10 ff_X1_35_80 (Nat.le_of_ble_eq_true rfl) (Nat.le_of_ble_eq_true rfl) rfl (cLi (pc := 13) h dX1_look_13 rfl (cS (pc := 14) h dX1_look_14 rfl (rWi (pc := 17) h dX1_look_17 rfl (Nat.le_of_ble_eq_true rfl) (Nat.le_of_ble_eq_true rfl) (zV (pc := 18) h hm (Nat.le_refl _) dX1_look_18))))))))))
set_option maxRecDepth 20000 in
theorem lX1_look_0 (a1 : Int32) (a2 : Int32) (m : qM) : tX1_look_0 (wX1_look_75 fX1_look_75) (wX1_look_75a fX1_look_75a) [some (.ref 80), some (.int a1), some (.int a2), none, none, none, none, none, none] [] m = fX1_look_0 a1 a2 m := rfl
noncomputable def GX1_look : qG Unit := fun av m => match av with
  | [.ref 80, .int a1, .int a2] => fX1_look a1 a2 m
  | _ => none
theorem spX1_look : qSpV yX1_look (.code yX1_look cX1_look 9 none) 4 qfin 155 155 1 GX1_look := by
  intro av m m' hG
  unfold GX1_look at hG
  split at hG
  · rename_i a1 a2
    rw [fX1_look_d] at hG
    exact ⟨qmeet (J := jV) (r := ((), m')) (av := [.ref 80, .int a1, .int a2]) (by decide +kernel) (Nat.le_of_ble_eq_true rfl) (fun C w h hm hx hn => sX1_look_0 h hm hx (bX1_look_75 h hm hx) (bX1_look_75a h hm hx)) ((lX1_look_0 _ _ _).trans hG) (Nat.le_of_ble_eq_true rfl), Or.inl ⟨80, _, 1, _, _, rfl, by decide, rfl, qCk_1, rfl⟩⟩
  · cases hG
theorem ml_X1_76 : Jvm.Cond.methodLinkNest RX1 76 yX11_within "ParentEve" ∈ qTw := qm5 (List.mem_of_getElem? (i := 122) (by decide +kernel)) (by decide +kernel)
theorem kd_X1_76 {C : qCx} {w : qWp} {cc : ByteArray} {nL dp n0 n1 pc : Nat} (h : qOk C w RX1 cc nL dp n0 n1) (d : decode cc pc = .ok (.invokestatic 76, 3)) : qCallOk C w nL dp n0 n1 pc 3 0 yX11_within (.code yX11_within cX11_within 3 (some .boolean)) := kindSN h d ml_X1_76 im_X11_within in_ParentEve co_X11_within yk_X11_within (by decide)
theorem im_X1_prepare : Jvm.Cond.instanceMethod yX1_prepare ∈ qTw := qm5 (List.mem_of_getElem? (i := 125) (by decide +kernel)) (by decide +kernel)
theorem se_X1_prepare : Jvm.Cond.selects yX1_prepare.cls yX1_prepare yX1_prepare ∈ qTw := List.mem_filter.mpr ⟨List.mem_append_left _ (List.mem_of_getElem? (i := 20) (by decide +kernel)), rfl⟩
theorem co_X1_prepare : Jvm.Cond.code yX1_prepare cX1_prepare 3 none ∈ qTw := qm5 (List.mem_of_getElem? (i := 126) (by decide +kernel)) (by decide +kernel)
theorem yk_X1_prepare : qYk yX1_prepare 1 := ⟨⟨by decide +kernel, by decide +kernel⟩, by decide +kernel⟩
theorem ml_X1_80 : Jvm.Cond.methodLink RX1 80 yX1_prepare ∈ qTw := qm5 (List.mem_of_getElem? (i := 123) (by decide +kernel)) (by decide +kernel)
theorem kd_X1_80 {C : qCx} {w : qWp} {cc : ByteArray} {nL dp n0 n1 pc : Nat} (h : qOk C w RX1 cc nL dp n0 n1) (d : decode cc pc = .ok (.invokevirtual 80, 3)) : qCallOk C w nL dp n0 n1 pc 2 1 yX1_prepare (.code yX1_prepare cX1_prepare 3 none) := kindV h d ml_X1_80 im_X1_prepare se_X1_prepare in_ParentEve_Evening co_X1_prepare yk_X1_prepare (by decide)
theorem ml_X1_94 : Jvm.Cond.methodLink RX1 94 yJ9_max_7cf53 ∈ qTw := qm5 (List.mem_of_getElem? (i := 221) (by decide +kernel)) (by decide +kernel)
theorem kd_X1_94 {C : qCx} {w : qWp} {cc : ByteArray} {nL dp n0 n1 pc : Nat} (h : qOk C w RX1 cc nL dp n0 n1) (d : decode cc pc = .ok (.invokestatic 94, 3)) : qCallOk C w nL dp n0 n1 pc 2 0 yJ9_max_7cf53 (.code yJ9_max_7cf53 cJ9_max_7cf53 2 (some .int)) := kindS h d ml_X1_94 im_J9_max_7cf53 in_java_lang_Math co_J9_max_7cf53 yk_J9_max_7cf53 (by decide)
theorem im_X1_look : Jvm.Cond.instanceMethod yX1_look ∈ qTw := qm5 (List.mem_of_getElem? (i := 141) (by decide +kernel)) (by decide +kernel)
theorem se_X1_look : Jvm.Cond.selects yX1_look.cls yX1_look yX1_look ∈ qTw := List.mem_filter.mpr ⟨List.mem_append_left _ (List.mem_of_getElem? (i := 21) (by decide +kernel)), rfl⟩
theorem co_X1_look : Jvm.Cond.code yX1_look cX1_look 9 none ∈ qTw := qm5 (List.mem_of_getElem? (i := 142) (by decide +kernel)) (by decide +kernel)
theorem yk_X1_look : qYk yX1_look 2 := ⟨⟨by decide +kernel, by decide +kernel⟩, by decide +kernel⟩
theorem ml_X1_84 : Jvm.Cond.methodLink RX1 84 yX1_look ∈ qTw := qm5 (List.mem_of_getElem? (i := 139) (by decide +kernel)) (by decide +kernel)
theorem kd_X1_84 {C : qCx} {w : qWp} {cc : ByteArray} {nL dp n0 n1 pc : Nat} (h : qOk C w RX1 cc nL dp n0 n1) (d : decode cc pc = .ok (.invokevirtual 84, 3)) : qCallOk C w nL dp n0 n1 pc 3 1 yX1_look (.code yX1_look cX1_look 9 none) := kindV h d ml_X1_84 im_X1_look se_X1_look in_ParentEve_Evening co_X1_look yk_X1_look (by decide)
theorem dX1_makeReady_0 : decode cX1_makeReady 0 = .ok (.iload_n 1, 1) := by decide +kernel
theorem dX1_makeReady_1 : decode cX1_makeReady 1 = .ok (.iconst 0, 1) := by decide +kernel
theorem dX1_makeReady_2 : decode cX1_makeReady 2 = .ok (.bipush 80, 2) := by decide +kernel
theorem dX1_makeReady_4 : decode cX1_makeReady 4 = .ok (.invokestatic 76, 3) := by decide +kernel
theorem dX1_makeReady_7 : decode cX1_makeReady 7 = .ok (.ifCond .eq 12, 3) := by decide +kernel
theorem dX1_makeReady_10 : decode cX1_makeReady 10 = .ok (.aload_n 0, 1) := by decide +kernel
theorem dX1_makeReady_11 : decode cX1_makeReady 11 = .ok (.getfield 18, 3) := by decide +kernel
theorem dX1_makeReady_14 : decode cX1_makeReady 14 = .ok (.iload_n 1, 1) := by decide +kernel
theorem dX1_makeReady_15 : decode cX1_makeReady 15 = .ok (.baload, 1) := by decide +kernel
theorem dX1_makeReady_16 : decode cX1_makeReady 16 = .ok (.ifCond .eq 4, 3) := by decide +kernel
theorem dX1_makeReady_19 : decode cX1_makeReady 19 = .ok (.return_, 1) := by decide +kernel
theorem dX1_makeReady_20 : decode cX1_makeReady 20 = .ok (.aload_n 0, 1) := by decide +kernel
theorem dX1_makeReady_21 : decode cX1_makeReady 21 = .ok (.iload_n 1, 1) := by decide +kernel
theorem dX1_makeReady_22 : decode cX1_makeReady 22 = .ok (.invokevirtual 80, 3) := by decide +kernel
theorem dX1_makeReady_25 : decode cX1_makeReady 25 = .ok (.iconst 0, 1) := by decide +kernel
theorem dX1_makeReady_26 : decode cX1_makeReady 26 = .ok (.istore_n 2, 1) := by decide +kernel
theorem dX1_makeReady_27 : decode cX1_makeReady 27 = .ok (.iload_n 2, 1) := by decide +kernel
theorem dX1_makeReady_28 : decode cX1_makeReady 28 = .ok (.sipush 800, 3) := by decide +kernel
theorem dX1_makeReady_31 : decode cX1_makeReady 31 = .ok (.if_icmp .ge 64, 3) := by decide +kernel
theorem dX1_makeReady_34 : decode cX1_makeReady 34 = .ok (.sipush 800, 3) := by decide +kernel
theorem dX1_makeReady_37 : decode cX1_makeReady 37 = .ok (.istore_n 3, 1) := by decide +kernel
theorem dX1_makeReady_38 : decode cX1_makeReady 38 = .ok (.iconst 0, 1) := by decide +kernel
theorem dX1_makeReady_39 : decode cX1_makeReady 39 = .ok (.istore 4, 2) := by decide +kernel
theorem dX1_makeReady_41 : decode cX1_makeReady 41 = .ok (.iload 4, 2) := by decide +kernel
theorem dX1_makeReady_43 : decode cX1_makeReady 43 = .ok (.bipush 10, 2) := by decide +kernel
theorem dX1_makeReady_45 : decode cX1_makeReady 45 = .ok (.if_icmp .ge 39, 3) := by decide +kernel
theorem dX1_makeReady_48 : decode cX1_makeReady 48 = .ok (.aload_n 0, 1) := by decide +kernel
theorem dX1_makeReady_49 : decode cX1_makeReady 49 = .ok (.getfield 35, 3) := by decide +kernel
theorem dX1_makeReady_52 : decode cX1_makeReady 52 = .ok (.iload 4, 2) := by decide +kernel
theorem dX1_makeReady_54 : decode cX1_makeReady 54 = .ok (.iaload, 1) := by decide +kernel
theorem dX1_makeReady_55 : decode cX1_makeReady 55 = .ok (.iload_n 2, 1) := by decide +kernel
theorem dX1_makeReady_56 : decode cX1_makeReady 56 = .ok (.if_icmp .gt 10, 3) := by decide +kernel
theorem dX1_makeReady_59 : decode cX1_makeReady 59 = .ok (.aload_n 0, 1) := by decide +kernel
theorem dX1_makeReady_60 : decode cX1_makeReady 60 = .ok (.iload 4, 2) := by decide +kernel
theorem dX1_makeReady_62 : decode cX1_makeReady 62 = .ok (.iload_n 2, 1) := by decide +kernel
theorem dX1_makeReady_63 : decode cX1_makeReady 63 = .ok (.invokevirtual 84, 3) := by decide +kernel
theorem dX1_makeReady_66 : decode cX1_makeReady 66 = .ok (.iload_n 3, 1) := by decide +kernel
theorem dX1_makeReady_67 : decode cX1_makeReady 67 = .ok (.aload_n 0, 1) := by decide +kernel
theorem dX1_makeReady_68 : decode cX1_makeReady 68 = .ok (.getfield 35, 3) := by decide +kernel
theorem dX1_makeReady_71 : decode cX1_makeReady 71 = .ok (.iload 4, 2) := by decide +kernel
theorem dX1_makeReady_73 : decode cX1_makeReady 73 = .ok (.iaload, 1) := by decide +kernel
theorem dX1_makeReady_74 : decode cX1_makeReady 74 = .ok (.invokestatic 88, 3) := by decide +kernel
theorem dX1_makeReady_77 : decode cX1_makeReady 77 = .ok (.istore_n 3, 1) := by decide +kernel
theorem dX1_makeReady_78 : decode cX1_makeReady 78 = .ok (.iinc 4 1, 3) := by decide +kernel
theorem dX1_makeReady_81 : decode cX1_makeReady 81 = .ok (.goto (-40), 3) := by decide +kernel
theorem dX1_makeReady_84 : decode cX1_makeReady 84 = .ok (.iload_n 2, 1) := by decide +kernel
theorem dX1_makeReady_85 : decode cX1_makeReady 85 = .ok (.iconst 1, 1) := by decide +kernel
theorem dX1_makeReady_86 : decode cX1_makeReady 86 = .ok (.iadd, 1) := by decide +kernel
theorem dX1_makeReady_87 : decode cX1_makeReady 87 = .ok (.iload_n 3, 1) := by decide +kernel
theorem dX1_makeReady_88 : decode cX1_makeReady 88 = .ok (.invokestatic 94, 3) := by decide +kernel
theorem dX1_makeReady_91 : decode cX1_makeReady 91 = .ok (.istore_n 2, 1) := by decide +kernel
theorem dX1_makeReady_92 : decode cX1_makeReady 92 = .ok (.goto (-65), 3) := by decide +kernel
theorem dX1_makeReady_95 : decode cX1_makeReady 95 = .ok (.aload_n 0, 1) := by decide +kernel
theorem dX1_makeReady_96 : decode cX1_makeReady 96 = .ok (.getfield 18, 3) := by decide +kernel
theorem dX1_makeReady_99 : decode cX1_makeReady 99 = .ok (.iload_n 1, 1) := by decide +kernel
theorem dX1_makeReady_100 : decode cX1_makeReady 100 = .ok (.iconst 1, 1) := by decide +kernel
theorem dX1_makeReady_101 : decode cX1_makeReady 101 = .ok (.bastore, 1) := by decide +kernel
theorem dX1_makeReady_102 : decode cX1_makeReady 102 = .ok (.return_, 1) := by decide +kernel
noncomputable def tX1_makeReady_10 : qT (Unit × qM) :=
  eV
noncomputable def wX1_makeReady_10 (k : qM → Option (Unit × qM)) : qT (Unit × qM) := fun lo st m => match lo, st with
  | [_, _, _, _, _], [] => k m
  | _, _ => none
set_option maxRecDepth 20000 in
theorem sX1_makeReady_10 {C : qCx} {w : qWp} (h : qOk C w RX1 cX1_makeReady 5 5 155 155) (hm : qMt C none) (hx : qNx C) : qSnd C w 5 155 (qQf C w 155 155 jV) qfin 155 19 (tX1_makeReady_10) :=
  zV (pc := 19) h hm (Nat.le_refl _) dX1_makeReady_19
set_option maxRecDepth 20000 in
theorem lX1_makeReady_10 (m : qM) : tX1_makeReady_10 [none, none, none, none, none] [] m = fX1_makeReady_10 m := rfl
theorem bX1_makeReady_10 {C : qCx} {w : qWp} (h : qOk C w RX1 cX1_makeReady 5 5 155 155) (hm : qMt C none) (hx : qNx C) : qSnd C w 5 155 (qQf C w 155 155 jV) qfin 155 19 (wX1_makeReady_10 fX1_makeReady_10) :=
  qSnd_of (fun lo st m x hr0 => by
    unfold wX1_makeReady_10 at hr0
    split at hr0
    · exact ⟨_, (qsub_n (qsub_n (qsub_n (qsub_n (qsub_n qsub_nil))))), (lX1_makeReady_10 _).trans hr0⟩
    · cases hr0) (sX1_makeReady_10 h hm hx)
noncomputable def tX1_makeReady_36 (j23 : qT (Unit × qM)) : qT (Unit × qM) :=
  oLi 3 (oLa 0 (oGf 80 12 86 (oLi 4 (oAi 86 10 (oCi GJ9_min_7cf53 2 (oSi 3 (oInc 4 (1 : Int32) (j23))))))))
noncomputable def wX1_makeReady_36 (k : Int32 → Int32 → Int32 → Int32 → qM → Option (Unit × qM)) : qT (Unit × qM) := fun lo st m => match lo, st with
  | [some (.ref 80), some (.int a1), some (.int a2), some (.int a3), some (.int a4)], [] => k a1 a2 a3 a4 m
  | _, _ => none
noncomputable def wX1_makeReady_23 (k : Int32 → Int32 → Int32 → Int32 → qM → Option (Unit × qM)) : qT (Unit × qM) := fun lo st m => match lo, st with
  | [some (.ref 80), some (.int a1), some (.int a2), some (.int a3), some (.int a4)], [] => k a1 a2 a3 a4 m
  | _, _ => none
set_option maxRecDepth 20000 in
theorem sX1_makeReady_36 {C : qCx} {w : qWp} (h : qOk C w RX1 cX1_makeReady 5 5 155 155) (hm : qMt C none) (hx : qNx C) {j23 : qT (Unit × qM)} (k23 : qSnd C w 5 155 (qQf C w 155 155 jV) qfin 155 41 j23) : qSnd C w 5 155 (qQf C w 155 155 jV) qfin 155 66 (tX1_makeReady_36 j23) :=
  cLi (pc := 66) h dX1_makeReady_66 rfl (cLa (pc := 67) h dX1_makeReady_67 rfl (gGf (pc := 68) h dX1_makeReady_68 ff_X1_35_80 (Nat.le_of_ble_eq_true rfl) (Nat.le_of_ble_eq_true rfl) rfl (cLI (pc := 71) h dX1_makeReady_71 (rAi (pc := 73) h dX1_makeReady_73 rfl (Nat.le_of_ble_eq_true rfl) (Nat.le_of_ble_eq_true rfl) (kCi (pc := 74) h (kd_X1_88 h dX1_makeReady_74) spJ9_min_7cf53 (by decide) (by decide) (by decide) (by decide) (cSi (pc := 77) h dX1_makeReady_77 rfl (cInc (pc := 78) h dX1_makeReady_78 rfl (jGo (pc := 81) h dX1_makeReady_81 rfl (k23)))))))))
set_option maxRecDepth 20000 in
theorem lX1_makeReady_36 (k23 : Int32 → Int32 → Int32 → Int32 → qM → Option (Unit × qM)) (a1 : Int32) (a2 : Int32) (a3 : Int32) (a4 : Int32) (m : qM) : tX1_makeReady_36 (wX1_makeReady_23 k23) [some (.ref 80), some (.int a1), some (.int a2), some (.int a3), some (.int a4)] [] m = fX1_makeReady_36 k23 a1 a2 a3 a4 m := rfl
theorem bX1_makeReady_36 {C : qCx} {w : qWp} (h : qOk C w RX1 cX1_makeReady 5 5 155 155) (hm : qMt C none) (hx : qNx C) {k23 : Int32 → Int32 → Int32 → Int32 → qM → Option (Unit × qM)} (h23 : qSnd C w 5 155 (qQf C w 155 155 jV) qfin 155 41 (wX1_makeReady_23 k23)) : qSnd C w 5 155 (qQf C w 155 155 jV) qfin 155 66 (wX1_makeReady_36 (fX1_makeReady_36 k23)) :=
  qSnd_of (fun lo st m x hr0 => by
    unfold wX1_makeReady_36 at hr0
    split at hr0
    · exact ⟨_, (qsub_e (qsub_e (qsub_e (qsub_e (qsub_e qsub_nil))))), (lX1_makeReady_36 _ _ _ _ _ _).trans hr0⟩
    · cases hr0) (sX1_makeReady_36 h hm hx h23)
noncomputable def tX1_makeReady_23 (j16 : qT (Unit × qM)) (j36 : qT (Unit × qM)) : qT (Unit × qM) :=
  oLi 4 (oC (.int (10 : Int32)) (oCGe (oLi 2 (oC (.int (1 : Int32)) (o2 (· + ·) (oLi 3 (oCi GJ9_max_7cf53 2 (oSi 2 (j16))))))) (oLa 0 (oGf 80 12 86 (oLi 4 (oAi 86 10 (oLi 2 (oCGt (j36) (oLa 0 (oLi 4 (oLi 2 (oCv GX1_look 3 (j36)))))))))))))
noncomputable def wX1_makeReady_16 (k : Int32 → Int32 → qM → Option (Unit × qM)) : qT (Unit × qM) := fun lo st m => match lo, st with
  | [some (.ref 80), some (.int a1), some (.int a2), _, _], [] => k a1 a2 m
  | _, _ => none
set_option maxRecDepth 20000 in
theorem sX1_makeReady_23 {C : qCx} {w : qWp} (h : qOk C w RX1 cX1_makeReady 5 5 155 155) (hm : qMt C none) (hx : qNx C) {j16 : qT (Unit × qM)} {j36 : qT (Unit × qM)} (k16 : qSnd C w 5 155 (qQf C w 155 155 jV) qfin 155 27 j16) (k36 : qSnd C w 5 155 (qQf C w 155 155 jV) qfin 155 66 j36) : qSnd C w 5 155 (qQf C w 155 155 jV) qfin 155 41 (tX1_makeReady_23 j16 j36) :=
  cLI (pc := 41) h dX1_makeReady_41 (cB (pc := 43) h dX1_makeReady_43 rfl (jCGe (pc := 45) h dX1_makeReady_45 rfl (cLi (pc := 84) h dX1_makeReady_84 rfl (cC (pc := 85) h dX1_makeReady_85 rfl (aAdd (pc := 86) h dX1_makeReady_86 (cLi (pc := 87) h dX1_makeReady_87 rfl (kCi (pc := 88) h (kd_X1_94 h dX1_makeReady_88) spJ9_max_7cf53 (by decide) (by decide) (by decide) (by decide) (cSi (pc := 91) h dX1_makeReady_91 rfl (jGo (pc := 92) h dX1_makeReady_92 rfl (k16)))))))) (cLa (pc := 48) h dX1_makeReady_48 rfl (gGf (pc := 49) h dX1_makeReady_49 ff_X1_35_80 (Nat.le_of_ble_eq_true rfl) (Nat.le_of_ble_eq_true rfl) rfl (cLI (pc := 52) h dX1_makeReady_52 (rAi (pc := 54) h dX1_makeReady_54 rfl (Nat.le_of_ble_eq_true rfl) (Nat.le_of_ble_eq_true rfl) (cLi (pc := 55) h dX1_makeReady_55 rfl (jCGt (pc := 56) h dX1_makeReady_56 rfl (k36) (cLa (pc := 59) h dX1_makeReady_59 rfl (cLI (pc := 60) h dX1_makeReady_60 (cLi (pc := 62) h dX1_makeReady_62 rfl (kCv (pc := 63) h (kd_X1_84 h dX1_makeReady_63) spX1_look (by decide) (by decide) (by decide) (by decide) (k36)))))))))))))
set_option maxRecDepth 20000 in
theorem lX1_makeReady_23 (k16 : Int32 → Int32 → qM → Option (Unit × qM)) (n : Nat) (a1 : Int32) (a2 : Int32) (a3 : Int32) (a4 : Int32) (m : qM) : tX1_makeReady_23 (wX1_makeReady_16 k16) (wX1_makeReady_36 (fX1_makeReady_36 (fX1_makeReady_23 k16 n))) [some (.ref 80), some (.int a1), some (.int a2), some (.int a3), some (.int a4)] [] m = fX1_makeReady_23 k16 (n + 1) a1 a2 a3 a4 m := rfl
theorem bX1_makeReady_23 {C : qCx} {w : qWp} (h : qOk C w RX1 cX1_makeReady 5 5 155 155) (hm : qMt C none) (hx : qNx C) {k16 : Int32 → Int32 → qM → Option (Unit × qM)} (h16 : qSnd C w 5 155 (qQf C w 155 155 jV) qfin 155 27 (wX1_makeReady_16 k16)) : ∀ n : Nat, qSnd C w 5 155 (qQf C w 155 155 jV) qfin 155 41 (wX1_makeReady_23 (fX1_makeReady_23 k16 n))
  | 0 => qSnd_of0 (fun lo st m x hr0 => by
    unfold wX1_makeReady_23 at hr0
    split at hr0
    · cases hr0
    · cases hr0)
  | n + 1 => by
    have ih := bX1_makeReady_23 h hm hx h16 n
    exact qSnd_of (fun lo st m x hr0 => by
    unfold wX1_makeReady_23 at hr0
    split at hr0
    · exact ⟨_, (qsub_e (qsub_e (qsub_e (qsub_e (qsub_e qsub_nil))))), (lX1_makeReady_23 _ n _ _ _ _ _).trans hr0⟩
    · cases hr0) (sX1_makeReady_23 h hm hx h16 (bX1_makeReady_36 h hm hx ih))
noncomputable def tX1_makeReady_16 (j23 : qT (Unit × qM)) : qT (Unit × qM) :=
  oLi 2 (oC (.int (800 : Int32)) (oCGe (oLa 0 (oGf 80 7 83 (oLi 1 (oC (.int (1 : Int32)) (oWz 83 81 (eV)))))) (oC (.int (800 : Int32)) (oSi 3 (oC (.int (0 : Int32)) (oSi 4 (j23)))))))
set_option maxRecDepth 20000 in
theorem sX1_makeReady_16 {C : qCx} {w : qWp} (h : qOk C w RX1 cX1_makeReady 5 5 155 155) (hm : qMt C none) (hx : qNx C) {j23 : qT (Unit × qM)} (k23 : qSnd C w 5 155 (qQf C w 155 155 jV) qfin 155 41 j23) : qSnd C w 5 155 (qQf C w 155 155 jV) qfin 155 27 (tX1_makeReady_16 j23) :=
  cLi (pc := 27) h dX1_makeReady_27 rfl (cS (pc := 28) h dX1_makeReady_28 rfl (jCGe (pc := 31) h dX1_makeReady_31 rfl (cLa (pc := 95) h dX1_makeReady_95 rfl (gGf (pc := 96) h dX1_makeReady_96 ff_X1_18_80 (Nat.le_of_ble_eq_true rfl) (Nat.le_of_ble_eq_true rfl) rfl (cLi (pc := 99) h dX1_makeReady_99 rfl (cC (pc := 100) h dX1_makeReady_100 rfl (rWz (pc := 101) h dX1_makeReady_101 rfl (Nat.le_of_ble_eq_true rfl) (Nat.le_of_ble_eq_true rfl) (zV (pc := 102) h hm (Nat.le_refl _) dX1_makeReady_102)))))) (cS (pc := 34) h dX1_makeReady_34 rfl (cSi (pc := 37) h dX1_makeReady_37 rfl (cC (pc := 38) h dX1_makeReady_38 rfl (cSI (pc := 39) h dX1_makeReady_39 (k23)))))))
set_option maxRecDepth 20000 in
theorem lX1_makeReady_16 (n : Nat) (a1 : Int32) (a2 : Int32) (m : qM) : tX1_makeReady_16 (wX1_makeReady_23 (fX1_makeReady_23 (fX1_makeReady_16 n) FU)) [some (.ref 80), some (.int a1), some (.int a2), none, none] [] m = fX1_makeReady_16 (n + 1) a1 a2 m := rfl
theorem bX1_makeReady_16 {C : qCx} {w : qWp} (h : qOk C w RX1 cX1_makeReady 5 5 155 155) (hm : qMt C none) (hx : qNx C) : ∀ n : Nat, qSnd C w 5 155 (qQf C w 155 155 jV) qfin 155 27 (wX1_makeReady_16 (fX1_makeReady_16 n))
  | 0 => qSnd_of0 (fun lo st m x hr0 => by
    unfold wX1_makeReady_16 at hr0
    split at hr0
    · cases hr0
    · cases hr0)
  | n + 1 => by
    have ih := bX1_makeReady_16 h hm hx n
    exact qSnd_of (fun lo st m x hr0 => by
    unfold wX1_makeReady_16 at hr0
    split at hr0
    · exact ⟨_, (qsub_e (qsub_e (qsub_e (qsub_n (qsub_n qsub_nil))))), (lX1_makeReady_16 n _ _ _).trans hr0⟩
    · cases hr0) (sX1_makeReady_16 h hm hx (bX1_makeReady_23 h hm hx ih FU))
noncomputable def tX1_makeReady_0 (j10 : qT (Unit × qM)) (j16 : qT (Unit × qM)) : qT (Unit × qM) :=
  oLi 1 (oC (.int (0 : Int32)) (oC (.int (80 : Int32)) (oCi GX11_within 3 (oEq (j10) (oLa 0 (oGf 80 7 83 (oLi 1 (oAi 83 81 (oEq (oLa 0 (oLi 1 (oCv GX1_prepare 2 (oC (.int (0 : Int32)) (oSi 2 (j16)))))) (j10))))))))))
set_option maxRecDepth 20000 in
theorem sX1_makeReady_0 {C : qCx} {w : qWp} (h : qOk C w RX1 cX1_makeReady 5 5 155 155) (hm : qMt C none) (hx : qNx C) {j10 : qT (Unit × qM)} {j16 : qT (Unit × qM)} (k10 : qSnd C w 5 155 (qQf C w 155 155 jV) qfin 155 19 j10) (k16 : qSnd C w 5 155 (qQf C w 155 155 jV) qfin 155 27 j16) : qSnd C w 5 155 (qQf C w 155 155 jV) qfin 155 0 (tX1_makeReady_0 j10 j16) :=
  cLi (pc := 0) h dX1_makeReady_0 rfl (cC (pc := 1) h dX1_makeReady_1 rfl (cB (pc := 2) h dX1_makeReady_2 rfl (kCi (pc := 4) h (kd_X1_76 h dX1_makeReady_4) spX11_within (by decide) (by decide) (by decide) (by decide) (jEq (pc := 7) h dX1_makeReady_7 rfl (k10) (cLa (pc := 10) h dX1_makeReady_10 rfl (gGf (pc := 11) h dX1_makeReady_11 ff_X1_18_80 (Nat.le_of_ble_eq_true rfl) (Nat.le_of_ble_eq_true rfl) rfl (cLi (pc := 14) h dX1_makeReady_14 rfl (rAz (pc := 15) h dX1_makeReady_15 rfl (Nat.le_of_ble_eq_true rfl) (Nat.le_of_ble_eq_true rfl) (jEq (pc := 16) h dX1_makeReady_16 rfl (cLa (pc := 20) h dX1_makeReady_20 rfl (cLi (pc := 21) h dX1_makeReady_21 rfl (kCv (pc := 22) h (kd_X1_80 h dX1_makeReady_22) spX1_prepare (by decide) (by decide) (by decide) (by decide) (cC (pc := 25) h dX1_makeReady_25 rfl (cSi (pc := 26) h dX1_makeReady_26 rfl (k16)))))) (k10))))))))))
set_option maxRecDepth 20000 in
theorem lX1_makeReady_0 (a1 : Int32) (m : qM) : tX1_makeReady_0 (wX1_makeReady_10 fX1_makeReady_10) (wX1_makeReady_16 (fX1_makeReady_16 FU)) [some (.ref 80), some (.int a1), none, none, none] [] m = fX1_makeReady_0 a1 m := rfl
noncomputable def GX1_makeReady : qG Unit := fun av m => match av with
  | [.ref 80, .int a1] => fX1_makeReady a1 m
  | _ => none
theorem spX1_makeReady : qSpV yX1_makeReady (.code yX1_makeReady cX1_makeReady 5 none) 5 qfin 155 155 1 GX1_makeReady := by
  intro av m m' hG
  unfold GX1_makeReady at hG
  split at hG
  · rename_i a1
    rw [fX1_makeReady_d] at hG
    exact ⟨qmeet (J := jV) (r := ((), m')) (av := [.ref 80, .int a1]) (by decide +kernel) (Nat.le_of_ble_eq_true rfl) (fun C w h hm hx hn => sX1_makeReady_0 h hm hx (bX1_makeReady_10 h hm hx) (bX1_makeReady_16 h hm hx FU)) ((lX1_makeReady_0 _ _).trans hG) (Nat.le_of_ble_eq_true rfl), Or.inl ⟨80, _, 1, _, _, rfl, by decide, rfl, qCk_1, rfl⟩⟩
  · cases hG
theorem dX1_startOf_0 : decode cX1_startOf 0 = .ok (.iload_n 2, 1) := by decide +kernel
theorem dX1_startOf_1 : decode cX1_startOf 1 = .ok (.bipush 40, 2) := by decide +kernel
theorem dX1_startOf_3 : decode cX1_startOf 3 = .ok (.imul, 1) := by decide +kernel
theorem dX1_startOf_4 : decode cX1_startOf 4 = .ok (.iload_n 1, 1) := by decide +kernel
theorem dX1_startOf_5 : decode cX1_startOf 5 = .ok (.iadd, 1) := by decide +kernel
theorem dX1_startOf_6 : decode cX1_startOf 6 = .ok (.istore_n 3, 1) := by decide +kernel
theorem dX1_startOf_7 : decode cX1_startOf 7 = .ok (.iload_n 3, 1) := by decide +kernel
theorem dX1_startOf_8 : decode cX1_startOf 8 = .ok (.iconst 0, 1) := by decide +kernel
theorem dX1_startOf_9 : decode cX1_startOf 9 = .ok (.sipush 3239, 3) := by decide +kernel
theorem dX1_startOf_12 : decode cX1_startOf 12 = .ok (.invokestatic 76, 3) := by decide +kernel
theorem dX1_startOf_15 : decode cX1_startOf 15 = .ok (.ifCond .eq 12, 3) := by decide +kernel
theorem dX1_startOf_18 : decode cX1_startOf 18 = .ok (.aload_n 0, 1) := by decide +kernel
theorem dX1_startOf_19 : decode cX1_startOf 19 = .ok (.getfield 11, 3) := by decide +kernel
theorem dX1_startOf_22 : decode cX1_startOf 22 = .ok (.iload_n 3, 1) := by decide +kernel
theorem dX1_startOf_23 : decode cX1_startOf 23 = .ok (.iaload, 1) := by decide +kernel
theorem dX1_startOf_24 : decode cX1_startOf 24 = .ok (.goto 4, 3) := by decide +kernel
theorem dX1_startOf_27 : decode cX1_startOf 27 = .ok (.iconst (-1), 1) := by decide +kernel
theorem dX1_startOf_28 : decode cX1_startOf 28 = .ok (.ireturn, 1) := by decide +kernel
noncomputable def tX1_startOf_17 : qT (Int32 × qM) :=
  eI
noncomputable def wX1_startOf_17 (k : Int32 → qM → Option (Int32 × qM)) : qT (Int32 × qM) := fun lo st m => match lo, st with
  | [_, _, _, _], [.int s0] => k s0 m
  | _, _ => none
set_option maxRecDepth 20000 in
theorem sX1_startOf_17 {C : qCx} {w : qWp} (h : qOk C w RX1 cX1_startOf 4 1 155 155) (hm : qMt C (some .int)) (hx : qNx C) : qSnd C w 4 155 (qQf C w 155 155 jI) qfin 155 28 (tX1_startOf_17) :=
  zI (pc := 28) h hm (Nat.le_refl _) dX1_startOf_28
set_option maxRecDepth 20000 in
theorem lX1_startOf_17 (s0 : Int32) (m : qM) : tX1_startOf_17 [none, none, none, none] [(.int s0)] m = fX1_startOf_17 s0 m := rfl
theorem bX1_startOf_17 {C : qCx} {w : qWp} (h : qOk C w RX1 cX1_startOf 4 1 155 155) (hm : qMt C (some .int)) (hx : qNx C) : qSnd C w 4 155 (qQf C w 155 155 jI) qfin 155 28 (wX1_startOf_17 fX1_startOf_17) :=
  qSnd_of (fun lo st m x hr0 => by
    unfold wX1_startOf_17 at hr0
    split at hr0
    · exact ⟨_, (qsub_n (qsub_n (qsub_n (qsub_n qsub_nil)))), (lX1_startOf_17 _ _).trans hr0⟩
    · cases hr0) (sX1_startOf_17 h hm hx)
noncomputable def tX1_startOf_0 (j17 : qT (Int32 × qM)) : qT (Int32 × qM) :=
  oLi 2 (oC (.int (40 : Int32)) (o2 (· * ·) (oLi 1 (o2 (· + ·) (oSi 3 (oLi 3 (oC (.int (0 : Int32)) (oC (.int (3239 : Int32)) (oCi GX11_within 3 (oEq (oC (.int (-1 : Int32)) (j17)) (oLa 0 (oGf 80 5 81 (oLi 3 (oAi 81 3240 (j17)))))))))))))))
set_option maxRecDepth 20000 in
theorem sX1_startOf_0 {C : qCx} {w : qWp} (h : qOk C w RX1 cX1_startOf 4 1 155 155) (hm : qMt C (some .int)) (hx : qNx C) {j17 : qT (Int32 × qM)} (k17 : qSnd C w 4 155 (qQf C w 155 155 jI) qfin 155 28 j17) : qSnd C w 4 155 (qQf C w 155 155 jI) qfin 155 0 (tX1_startOf_0 j17) :=
  cLi (pc := 0) h dX1_startOf_0 rfl (cB (pc := 1) h dX1_startOf_1 rfl (aMul (pc := 3) h dX1_startOf_3 (cLi (pc := 4) h dX1_startOf_4 rfl (aAdd (pc := 5) h dX1_startOf_5 (cSi (pc := 6) h dX1_startOf_6 rfl (cLi (pc := 7) h dX1_startOf_7 rfl (cC (pc := 8) h dX1_startOf_8 rfl (cS (pc := 9) h dX1_startOf_9 rfl (kCi (pc := 12) h (kd_X1_76 h dX1_startOf_12) spX11_within (by decide) (by decide) (by decide) (by decide) (jEq (pc := 15) h dX1_startOf_15 rfl (cC (pc := 27) h dX1_startOf_27 rfl (k17)) (cLa (pc := 18) h dX1_startOf_18 rfl (gGf (pc := 19) h dX1_startOf_19 ff_X1_11_80 (Nat.le_of_ble_eq_true rfl) (Nat.le_of_ble_eq_true rfl) rfl (cLi (pc := 22) h dX1_startOf_22 rfl (rAi (pc := 23) h dX1_startOf_23 rfl (Nat.le_of_ble_eq_true rfl) (Nat.le_of_ble_eq_true rfl) (jGo (pc := 24) h dX1_startOf_24 rfl (k17))))))))))))))))
set_option maxRecDepth 20000 in
theorem lX1_startOf_0 (a1 : Int32) (a2 : Int32) (m : qM) : tX1_startOf_0 (wX1_startOf_17 fX1_startOf_17) [some (.ref 80), some (.int a1), some (.int a2), none] [] m = fX1_startOf_0 a1 a2 m := rfl
noncomputable def GX1_startOf : qG Int32 := fun av m => match av with
  | [.ref 80, .int a1, .int a2] => fX1_startOf a1 a2 m
  | _ => none
theorem spX1_startOf : qSpI yX1_startOf (.code yX1_startOf cX1_startOf 4 (some .int)) 1 qfin 155 155 1 GX1_startOf := by
  intro av m x m' hG
  unfold GX1_startOf at hG
  split at hG
  · rename_i a1 a2
    rw [fX1_startOf_d] at hG
    exact ⟨qmeet (J := jI) (r := (x, m')) (av := [.ref 80, .int a1, .int a2]) (by decide +kernel) (Nat.le_of_ble_eq_true rfl) (fun C w h hm hx hn => sX1_startOf_0 h hm hx (bX1_startOf_17 h hm hx)) ((lX1_startOf_0 _ _ _).trans hG) (Nat.le_of_ble_eq_true rfl), Or.inl ⟨80, _, 1, _, _, rfl, by decide, rfl, qCk_1, rfl⟩⟩
  · cases hG
theorem dX1_stopOf_0 : decode cX1_stopOf 0 = .ok (.iload_n 2, 1) := by decide +kernel
theorem dX1_stopOf_1 : decode cX1_stopOf 1 = .ok (.bipush 40, 2) := by decide +kernel
theorem dX1_stopOf_3 : decode cX1_stopOf 3 = .ok (.imul, 1) := by decide +kernel
theorem dX1_stopOf_4 : decode cX1_stopOf 4 = .ok (.iload_n 1, 1) := by decide +kernel
theorem dX1_stopOf_5 : decode cX1_stopOf 5 = .ok (.iadd, 1) := by decide +kernel
theorem dX1_stopOf_6 : decode cX1_stopOf 6 = .ok (.istore_n 3, 1) := by decide +kernel
theorem dX1_stopOf_7 : decode cX1_stopOf 7 = .ok (.iload_n 3, 1) := by decide +kernel
theorem dX1_stopOf_8 : decode cX1_stopOf 8 = .ok (.iconst 0, 1) := by decide +kernel
theorem dX1_stopOf_9 : decode cX1_stopOf 9 = .ok (.sipush 3239, 3) := by decide +kernel
theorem dX1_stopOf_12 : decode cX1_stopOf 12 = .ok (.invokestatic 76, 3) := by decide +kernel
theorem dX1_stopOf_15 : decode cX1_stopOf 15 = .ok (.ifCond .eq 12, 3) := by decide +kernel
theorem dX1_stopOf_18 : decode cX1_stopOf 18 = .ok (.aload_n 0, 1) := by decide +kernel
theorem dX1_stopOf_19 : decode cX1_stopOf 19 = .ok (.getfield 15, 3) := by decide +kernel
theorem dX1_stopOf_22 : decode cX1_stopOf 22 = .ok (.iload_n 3, 1) := by decide +kernel
theorem dX1_stopOf_23 : decode cX1_stopOf 23 = .ok (.iaload, 1) := by decide +kernel
theorem dX1_stopOf_24 : decode cX1_stopOf 24 = .ok (.goto 4, 3) := by decide +kernel
theorem dX1_stopOf_27 : decode cX1_stopOf 27 = .ok (.iconst (-1), 1) := by decide +kernel
theorem dX1_stopOf_28 : decode cX1_stopOf 28 = .ok (.ireturn, 1) := by decide +kernel
noncomputable def tX1_stopOf_17 : qT (Int32 × qM) :=
  eI
noncomputable def wX1_stopOf_17 (k : Int32 → qM → Option (Int32 × qM)) : qT (Int32 × qM) := fun lo st m => match lo, st with
  | [_, _, _, _], [.int s0] => k s0 m
  | _, _ => none
set_option maxRecDepth 20000 in
theorem sX1_stopOf_17 {C : qCx} {w : qWp} (h : qOk C w RX1 cX1_stopOf 4 1 155 155) (hm : qMt C (some .int)) (hx : qNx C) : qSnd C w 4 155 (qQf C w 155 155 jI) qfin 155 28 (tX1_stopOf_17) :=
  zI (pc := 28) h hm (Nat.le_refl _) dX1_stopOf_28
set_option maxRecDepth 20000 in
theorem lX1_stopOf_17 (s0 : Int32) (m : qM) : tX1_stopOf_17 [none, none, none, none] [(.int s0)] m = fX1_stopOf_17 s0 m := rfl
theorem bX1_stopOf_17 {C : qCx} {w : qWp} (h : qOk C w RX1 cX1_stopOf 4 1 155 155) (hm : qMt C (some .int)) (hx : qNx C) : qSnd C w 4 155 (qQf C w 155 155 jI) qfin 155 28 (wX1_stopOf_17 fX1_stopOf_17) :=
  qSnd_of (fun lo st m x hr0 => by
    unfold wX1_stopOf_17 at hr0
    split at hr0
    · exact ⟨_, (qsub_n (qsub_n (qsub_n (qsub_n qsub_nil)))), (lX1_stopOf_17 _ _).trans hr0⟩
    · cases hr0) (sX1_stopOf_17 h hm hx)
noncomputable def tX1_stopOf_0 (j17 : qT (Int32 × qM)) : qT (Int32 × qM) :=
  oLi 2 (oC (.int (40 : Int32)) (o2 (· * ·) (oLi 1 (o2 (· + ·) (oSi 3 (oLi 3 (oC (.int (0 : Int32)) (oC (.int (3239 : Int32)) (oCi GX11_within 3 (oEq (oC (.int (-1 : Int32)) (j17)) (oLa 0 (oGf 80 6 82 (oLi 3 (oAi 82 3240 (j17)))))))))))))))
set_option maxRecDepth 20000 in
theorem sX1_stopOf_0 {C : qCx} {w : qWp} (h : qOk C w RX1 cX1_stopOf 4 1 155 155) (hm : qMt C (some .int)) (hx : qNx C) {j17 : qT (Int32 × qM)} (k17 : qSnd C w 4 155 (qQf C w 155 155 jI) qfin 155 28 j17) : qSnd C w 4 155 (qQf C w 155 155 jI) qfin 155 0 (tX1_stopOf_0 j17) :=
  cLi (pc := 0) h dX1_stopOf_0 rfl (cB (pc := 1) h dX1_stopOf_1 rfl (aMul (pc := 3) h dX1_stopOf_3 (cLi (pc := 4) h dX1_stopOf_4 rfl (aAdd (pc := 5) h dX1_stopOf_5 (cSi (pc := 6) h dX1_stopOf_6 rfl (cLi (pc := 7) h dX1_stopOf_7 rfl (cC (pc := 8) h dX1_stopOf_8 rfl (cS (pc := 9) h dX1_stopOf_9 rfl (kCi (pc := 12) h (kd_X1_76 h dX1_stopOf_12) spX11_within (by decide) (by decide) (by decide) (by decide) (jEq (pc := 15) h dX1_stopOf_15 rfl (cC (pc := 27) h dX1_stopOf_27 rfl (k17)) (cLa (pc := 18) h dX1_stopOf_18 rfl (gGf (pc := 19) h dX1_stopOf_19 ff_X1_15_80 (Nat.le_of_ble_eq_true rfl) (Nat.le_of_ble_eq_true rfl) rfl (cLi (pc := 22) h dX1_stopOf_22 rfl (rAi (pc := 23) h dX1_stopOf_23 rfl (Nat.le_of_ble_eq_true rfl) (Nat.le_of_ble_eq_true rfl) (jGo (pc := 24) h dX1_stopOf_24 rfl (k17))))))))))))))))
set_option maxRecDepth 20000 in
theorem lX1_stopOf_0 (a1 : Int32) (a2 : Int32) (m : qM) : tX1_stopOf_0 (wX1_stopOf_17 fX1_stopOf_17) [some (.ref 80), some (.int a1), some (.int a2), none] [] m = fX1_stopOf_0 a1 a2 m := rfl
noncomputable def GX1_stopOf : qG Int32 := fun av m => match av with
  | [.ref 80, .int a1, .int a2] => fX1_stopOf a1 a2 m
  | _ => none
theorem spX1_stopOf : qSpI yX1_stopOf (.code yX1_stopOf cX1_stopOf 4 (some .int)) 1 qfin 155 155 1 GX1_stopOf := by
  intro av m x m' hG
  unfold GX1_stopOf at hG
  split at hG
  · rename_i a1 a2
    rw [fX1_stopOf_d] at hG
    exact ⟨qmeet (J := jI) (r := (x, m')) (av := [.ref 80, .int a1, .int a2]) (by decide +kernel) (Nat.le_of_ble_eq_true rfl) (fun C w h hm hx hn => sX1_stopOf_0 h hm hx (bX1_stopOf_17 h hm hx)) ((lX1_stopOf_0 _ _ _).trans hG) (Nat.le_of_ble_eq_true rfl), Or.inl ⟨80, _, 1, _, _, rfl, by decide, rfl, qCk_1, rfl⟩⟩
  · cases hG
theorem ml_X1_214 : Jvm.Cond.methodLink RX1 214 yX4_asks ∈ qTw := qm6 (List.mem_of_getElem? (i := 2) (by decide +kernel)) (by decide +kernel)
theorem kd_X1_214 {C : qCx} {w : qWp} {cc : ByteArray} {nL dp n0 n1 pc : Nat} (h : qOk C w RX1 cc nL dp n0 n1) (d : decode cc pc = .ok (.invokevirtual 214, 3)) : qCallOk C w nL dp n0 n1 pc 1 1 yX4_asks (.code yX4_asks cX4_asks 1 (some .int)) := kindV h d ml_X1_214 im_X4_asks se_X4_asks in_ParentEve_Plan co_X4_asks yk_X4_asks (by decide)
theorem ml_X1_217 : Jvm.Cond.methodLink RX1 217 yX4_isLaid ∈ qTw := qm6 (List.mem_of_getElem? (i := 4) (by decide +kernel)) (by decide +kernel)
theorem kd_X1_217 {C : qCx} {w : qWp} {cc : ByteArray} {nL dp n0 n1 pc : Nat} (h : qOk C w RX1 cc nL dp n0 n1) (d : decode cc pc = .ok (.invokevirtual 217, 3)) : qCallOk C w nL dp n0 n1 pc 2 1 yX4_isLaid (.code yX4_isLaid cX4_isLaid 2 (some .boolean)) := kindV h d ml_X1_217 im_X4_isLaid se_X4_isLaid in_ParentEve_Plan co_X4_isLaid yk_X4_isLaid (by decide)
theorem im_X1_startOf : Jvm.Cond.instanceMethod yX1_startOf ∈ qTw := qm5 (List.mem_of_getElem? (i := 223) (by decide +kernel)) (by decide +kernel)
theorem se_X1_startOf : Jvm.Cond.selects yX1_startOf.cls yX1_startOf yX1_startOf ∈ qTw := qm5 (List.mem_of_getElem? (i := 224) (by decide +kernel)) (by decide +kernel)
theorem co_X1_startOf : Jvm.Cond.code yX1_startOf cX1_startOf 4 (some .int) ∈ qTw := qm5 (List.mem_of_getElem? (i := 225) (by decide +kernel)) (by decide +kernel)
theorem yk_X1_startOf : qYk yX1_startOf 2 := ⟨⟨by decide +kernel, by decide +kernel⟩, by decide +kernel⟩
theorem ml_X1_220 : Jvm.Cond.methodLink RX1 220 yX1_startOf ∈ qTw := qm6 (List.mem_of_getElem? (i := 3) (by decide +kernel)) (by decide +kernel)
theorem kd_X1_220 {C : qCx} {w : qWp} {cc : ByteArray} {nL dp n0 n1 pc : Nat} (h : qOk C w RX1 cc nL dp n0 n1) (d : decode cc pc = .ok (.invokevirtual 220, 3)) : qCallOk C w nL dp n0 n1 pc 3 1 yX1_startOf (.code yX1_startOf cX1_startOf 4 (some .int)) := kindV h d ml_X1_220 im_X1_startOf se_X1_startOf in_ParentEve_Evening co_X1_startOf yk_X1_startOf (by decide)
theorem dX1_missed_0 : decode cX1_missed 0 = .ok (.iconst 0, 1) := by decide +kernel
theorem dX1_missed_1 : decode cX1_missed 1 = .ok (.istore_n 2, 1) := by decide +kernel
theorem dX1_missed_2 : decode cX1_missed 2 = .ok (.iconst 0, 1) := by decide +kernel
theorem dX1_missed_3 : decode cX1_missed 3 = .ok (.istore_n 3, 1) := by decide +kernel
theorem dX1_missed_4 : decode cX1_missed 4 = .ok (.iload_n 3, 1) := by decide +kernel
theorem dX1_missed_5 : decode cX1_missed 5 = .ok (.aload_n 0, 1) := by decide +kernel
theorem dX1_missed_6 : decode cX1_missed 6 = .ok (.getfield 68, 3) := by decide +kernel
theorem dX1_missed_9 : decode cX1_missed 9 = .ok (.invokevirtual 214, 3) := by decide +kernel
theorem dX1_missed_12 : decode cX1_missed 12 = .ok (.if_icmp .ge 33, 3) := by decide +kernel
theorem dX1_missed_15 : decode cX1_missed 15 = .ok (.aload_n 0, 1) := by decide +kernel
theorem dX1_missed_16 : decode cX1_missed 16 = .ok (.getfield 68, 3) := by decide +kernel
theorem dX1_missed_19 : decode cX1_missed 19 = .ok (.iload_n 3, 1) := by decide +kernel
theorem dX1_missed_20 : decode cX1_missed 20 = .ok (.invokevirtual 217, 3) := by decide +kernel
theorem dX1_missed_23 : decode cX1_missed 23 = .ok (.ifCond .eq 16, 3) := by decide +kernel
theorem dX1_missed_26 : decode cX1_missed 26 = .ok (.aload_n 0, 1) := by decide +kernel
theorem dX1_missed_27 : decode cX1_missed 27 = .ok (.iload_n 3, 1) := by decide +kernel
theorem dX1_missed_28 : decode cX1_missed 28 = .ok (.iload_n 1, 1) := by decide +kernel
theorem dX1_missed_29 : decode cX1_missed 29 = .ok (.invokevirtual 220, 3) := by decide +kernel
theorem dX1_missed_32 : decode cX1_missed 32 = .ok (.iconst (-1), 1) := by decide +kernel
theorem dX1_missed_33 : decode cX1_missed 33 = .ok (.if_icmp .ne 6, 3) := by decide +kernel
theorem dX1_missed_36 : decode cX1_missed 36 = .ok (.iinc 2 1, 3) := by decide +kernel
theorem dX1_missed_39 : decode cX1_missed 39 = .ok (.iinc 3 1, 3) := by decide +kernel
theorem dX1_missed_42 : decode cX1_missed 42 = .ok (.goto (-38), 3) := by decide +kernel
theorem dX1_missed_45 : decode cX1_missed 45 = .ok (.iload_n 2, 1) := by decide +kernel
theorem dX1_missed_46 : decode cX1_missed 46 = .ok (.ireturn, 1) := by decide +kernel
noncomputable def tX1_missed_21 (j4 : qT (Int32 × qM)) : qT (Int32 × qM) :=
  oInc 3 (1 : Int32) (j4)
noncomputable def wX1_missed_21 (k : Int32 → Int32 → Int32 → qM → Option (Int32 × qM)) : qT (Int32 × qM) := fun lo st m => match lo, st with
  | [some (.ref 80), some (.int a1), some (.int a2), some (.int a3)], [] => k a1 a2 a3 m
  | _, _ => none
noncomputable def wX1_missed_4 (k : Int32 → Int32 → Int32 → qM → Option (Int32 × qM)) : qT (Int32 × qM) := fun lo st m => match lo, st with
  | [some (.ref 80), some (.int a1), some (.int a2), some (.int a3)], [] => k a1 a2 a3 m
  | _, _ => none
set_option maxRecDepth 20000 in
theorem sX1_missed_21 {C : qCx} {w : qWp} (h : qOk C w RX1 cX1_missed 4 2 155 155) (hm : qMt C (some .int)) (hx : qNx C) {j4 : qT (Int32 × qM)} (k4 : qSnd C w 4 155 (qQf C w 155 155 jI) qfin 155 4 j4) : qSnd C w 4 155 (qQf C w 155 155 jI) qfin 155 39 (tX1_missed_21 j4) :=
  cInc (pc := 39) h dX1_missed_39 rfl (jGo (pc := 42) h dX1_missed_42 rfl (k4))
set_option maxRecDepth 20000 in
theorem lX1_missed_21 (k4 : Int32 → Int32 → Int32 → qM → Option (Int32 × qM)) (a1 : Int32) (a2 : Int32) (a3 : Int32) (m : qM) : tX1_missed_21 (wX1_missed_4 k4) [some (.ref 80), some (.int a1), some (.int a2), some (.int a3)] [] m = fX1_missed_21 k4 a1 a2 a3 m := rfl
theorem bX1_missed_21 {C : qCx} {w : qWp} (h : qOk C w RX1 cX1_missed 4 2 155 155) (hm : qMt C (some .int)) (hx : qNx C) {k4 : Int32 → Int32 → Int32 → qM → Option (Int32 × qM)} (h4 : qSnd C w 4 155 (qQf C w 155 155 jI) qfin 155 4 (wX1_missed_4 k4)) : qSnd C w 4 155 (qQf C w 155 155 jI) qfin 155 39 (wX1_missed_21 (fX1_missed_21 k4)) :=
  qSnd_of (fun lo st m x hr0 => by
    unfold wX1_missed_21 at hr0
    split at hr0
    · exact ⟨_, (qsub_e (qsub_e (qsub_e (qsub_e qsub_nil)))), (lX1_missed_21 _ _ _ _ _).trans hr0⟩
    · cases hr0) (sX1_missed_21 h hm hx h4)
noncomputable def tX1_missed_4 (j21 : qT (Int32 × qM)) : qT (Int32 × qM) :=
  oLi 3 (oLa 0 (oGf 80 3 58 (oCi GX4_asks 1 (oCGe (oLi 2 (eI)) (oLa 0 (oGf 80 3 58 (oLi 3 (oCi GX4_isLaid 2 (oEq (j21) (oLa 0 (oLi 3 (oLi 1 (oCi GX1_startOf 3 (oC (.int (-1 : Int32)) (oCEq (oInc 2 (1 : Int32) (j21)) (j21))))))))))))))))
set_option maxRecDepth 20000 in
theorem sX1_missed_4 {C : qCx} {w : qWp} (h : qOk C w RX1 cX1_missed 4 2 155 155) (hm : qMt C (some .int)) (hx : qNx C) {j21 : qT (Int32 × qM)} (k21 : qSnd C w 4 155 (qQf C w 155 155 jI) qfin 155 39 j21) : qSnd C w 4 155 (qQf C w 155 155 jI) qfin 155 4 (tX1_missed_4 j21) :=
  cLi (pc := 4) h dX1_missed_4 rfl (cLa (pc := 5) h dX1_missed_5 rfl (gGf (pc := 6) h dX1_missed_6 ff_X1_68_80 (Nat.le_of_ble_eq_true rfl) (Nat.le_of_ble_eq_true rfl) rfl (kCi (pc := 9) h (kd_X1_214 h dX1_missed_9) spX4_asks (by decide) (by decide) (by decide) (by decide) (jCGe (pc := 12) h dX1_missed_12 rfl (cLi (pc := 45) h dX1_missed_45 rfl (zI (pc := 46) h hm (Nat.le_refl _) dX1_missed_46)) (cLa (pc := 15) h dX1_missed_15 rfl (gGf (pc := 16) h dX1_missed_16 ff_X1_68_80 (Nat.le_of_ble_eq_true rfl) (Nat.le_of_ble_eq_true rfl) rfl (cLi (pc := 19) h dX1_missed_19 rfl (kCi (pc := 20) h (kd_X1_217 h dX1_missed_20) spX4_isLaid (by decide) (by decide) (by decide) (by decide) (jEq (pc := 23) h dX1_missed_23 rfl (k21) (cLa (pc := 26) h dX1_missed_26 rfl (cLi (pc := 27) h dX1_missed_27 rfl (cLi (pc := 28) h dX1_missed_28 rfl (kCi (pc := 29) h (kd_X1_220 h dX1_missed_29) spX1_startOf (by decide) (by decide) (by decide) (by decide) (cC (pc := 32) h dX1_missed_32 rfl (jCNe (pc := 33) h dX1_missed_33 rfl (k21) (cInc (pc := 36) h dX1_missed_36 rfl (k21)))))))))))))))))
set_option maxRecDepth 20000 in
theorem lX1_missed_4 (n : Nat) (a1 : Int32) (a2 : Int32) (a3 : Int32) (m : qM) : tX1_missed_4 (wX1_missed_21 (fX1_missed_21 (fX1_missed_4 n))) [some (.ref 80), some (.int a1), some (.int a2), some (.int a3)] [] m = fX1_missed_4 (n + 1) a1 a2 a3 m := rfl
theorem bX1_missed_4 {C : qCx} {w : qWp} (h : qOk C w RX1 cX1_missed 4 2 155 155) (hm : qMt C (some .int)) (hx : qNx C) : ∀ n : Nat, qSnd C w 4 155 (qQf C w 155 155 jI) qfin 155 4 (wX1_missed_4 (fX1_missed_4 n))
  | 0 => qSnd_of0 (fun lo st m x hr0 => by
    unfold wX1_missed_4 at hr0
    split at hr0
    · cases hr0
    · cases hr0)
  | n + 1 => by
    have ih := bX1_missed_4 h hm hx n
    exact qSnd_of (fun lo st m x hr0 => by
    unfold wX1_missed_4 at hr0
    split at hr0
    · exact ⟨_, (qsub_e (qsub_e (qsub_e (qsub_e qsub_nil)))), (lX1_missed_4 n _ _ _ _).trans hr0⟩
    · cases hr0) (sX1_missed_4 h hm hx (bX1_missed_21 h hm hx ih))
noncomputable def tX1_missed_0 (j4 : qT (Int32 × qM)) : qT (Int32 × qM) :=
  oC (.int (0 : Int32)) (oSi 2 (oC (.int (0 : Int32)) (oSi 3 (j4))))
set_option maxRecDepth 20000 in
theorem sX1_missed_0 {C : qCx} {w : qWp} (h : qOk C w RX1 cX1_missed 4 2 155 155) (hm : qMt C (some .int)) (hx : qNx C) {j4 : qT (Int32 × qM)} (k4 : qSnd C w 4 155 (qQf C w 155 155 jI) qfin 155 4 j4) : qSnd C w 4 155 (qQf C w 155 155 jI) qfin 155 0 (tX1_missed_0 j4) :=
  cC (pc := 0) h dX1_missed_0 rfl (cSi (pc := 1) h dX1_missed_1 rfl (cC (pc := 2) h dX1_missed_2 rfl (cSi (pc := 3) h dX1_missed_3 rfl (k4))))
set_option maxRecDepth 20000 in
theorem lX1_missed_0 (a1 : Int32) (m : qM) : tX1_missed_0 (wX1_missed_4 (fX1_missed_4 FU)) [some (.ref 80), some (.int a1), none, none] [] m = fX1_missed_0 a1 m := rfl
noncomputable def GX1_missed : qG Int32 := fun av m => match av with
  | [.ref 80, .int a1] => fX1_missed a1 m
  | _ => none
theorem spX1_missed : qSpI yX1_missed (.code yX1_missed cX1_missed 4 (some .int)) 2 qfin 155 155 1 GX1_missed := by
  intro av m x m' hG
  unfold GX1_missed at hG
  split at hG
  · rename_i a1
    rw [fX1_missed_d] at hG
    exact ⟨qmeet (J := jI) (r := (x, m')) (av := [.ref 80, .int a1]) (by decide +kernel) (Nat.le_of_ble_eq_true rfl) (fun C w h hm hx hn => sX1_missed_0 h hm hx (bX1_missed_4 h hm hx FU)) ((lX1_missed_0 _ _).trans hG) (Nat.le_of_ble_eq_true rfl), Or.inl ⟨80, _, 1, _, _, rfl, by decide, rfl, qCk_1, rfl⟩⟩
  · cases hG
theorem im_X1_stopOf : Jvm.Cond.instanceMethod yX1_stopOf ∈ qTw := qm5 (List.mem_of_getElem? (i := 227) (by decide +kernel)) (by decide +kernel)
theorem se_X1_stopOf : Jvm.Cond.selects yX1_stopOf.cls yX1_stopOf yX1_stopOf ∈ qTw := qm5 (List.mem_of_getElem? (i := 228) (by decide +kernel)) (by decide +kernel)
theorem co_X1_stopOf : Jvm.Cond.code yX1_stopOf cX1_stopOf 4 (some .int) ∈ qTw := qm5 (List.mem_of_getElem? (i := 229) (by decide +kernel)) (by decide +kernel)
theorem yk_X1_stopOf : qYk yX1_stopOf 2 := ⟨⟨by decide +kernel, by decide +kernel⟩, by decide +kernel⟩
theorem ml_X1_223 : Jvm.Cond.methodLink RX1 223 yX1_stopOf ∈ qTw := qm6 (List.mem_of_getElem? (i := 140) (by decide +kernel)) (by decide +kernel)
theorem kd_X1_223 {C : qCx} {w : qWp} {cc : ByteArray} {nL dp n0 n1 pc : Nat} (h : qOk C w RX1 cc nL dp n0 n1) (d : decode cc pc = .ok (.invokevirtual 223, 3)) : qCallOk C w nL dp n0 n1 pc 3 1 yX1_stopOf (.code yX1_stopOf cX1_stopOf 4 (some .int)) := kindV h d ml_X1_223 im_X1_stopOf se_X1_stopOf in_ParentEve_Evening co_X1_stopOf yk_X1_stopOf (by decide)
theorem dX1_lastStop_0 : decode cX1_lastStop 0 = .ok (.iconst 0, 1) := by decide +kernel
theorem dX1_lastStop_1 : decode cX1_lastStop 1 = .ok (.istore_n 2, 1) := by decide +kernel
theorem dX1_lastStop_2 : decode cX1_lastStop 2 = .ok (.iconst 0, 1) := by decide +kernel
theorem dX1_lastStop_3 : decode cX1_lastStop 3 = .ok (.istore_n 3, 1) := by decide +kernel
theorem dX1_lastStop_4 : decode cX1_lastStop 4 = .ok (.iload_n 3, 1) := by decide +kernel
theorem dX1_lastStop_5 : decode cX1_lastStop 5 = .ok (.aload_n 0, 1) := by decide +kernel
theorem dX1_lastStop_6 : decode cX1_lastStop 6 = .ok (.getfield 68, 3) := by decide +kernel
theorem dX1_lastStop_9 : decode cX1_lastStop 9 = .ok (.invokevirtual 214, 3) := by decide +kernel
theorem dX1_lastStop_12 : decode cX1_lastStop 12 = .ok (.if_icmp .ge 20, 3) := by decide +kernel
theorem dX1_lastStop_15 : decode cX1_lastStop 15 = .ok (.iload_n 2, 1) := by decide +kernel
theorem dX1_lastStop_16 : decode cX1_lastStop 16 = .ok (.aload_n 0, 1) := by decide +kernel
theorem dX1_lastStop_17 : decode cX1_lastStop 17 = .ok (.iload_n 3, 1) := by decide +kernel
theorem dX1_lastStop_18 : decode cX1_lastStop 18 = .ok (.iload_n 1, 1) := by decide +kernel
theorem dX1_lastStop_19 : decode cX1_lastStop 19 = .ok (.invokevirtual 223, 3) := by decide +kernel
theorem dX1_lastStop_22 : decode cX1_lastStop 22 = .ok (.invokestatic 94, 3) := by decide +kernel
theorem dX1_lastStop_25 : decode cX1_lastStop 25 = .ok (.istore_n 2, 1) := by decide +kernel
theorem dX1_lastStop_26 : decode cX1_lastStop 26 = .ok (.iinc 3 1, 3) := by decide +kernel
theorem dX1_lastStop_29 : decode cX1_lastStop 29 = .ok (.goto (-25), 3) := by decide +kernel
theorem dX1_lastStop_32 : decode cX1_lastStop 32 = .ok (.iload_n 2, 1) := by decide +kernel
theorem dX1_lastStop_33 : decode cX1_lastStop 33 = .ok (.ireturn, 1) := by decide +kernel
noncomputable def tX1_lastStop_4 (j4 : qT (Int32 × qM)) : qT (Int32 × qM) :=
  oLi 3 (oLa 0 (oGf 80 3 58 (oCi GX4_asks 1 (oCGe (oLi 2 (eI)) (oLi 2 (oLa 0 (oLi 3 (oLi 1 (oCi GX1_stopOf 3 (oCi GJ9_max_7cf53 2 (oSi 2 (oInc 3 (1 : Int32) (j4)))))))))))))
noncomputable def wX1_lastStop_4 (k : Int32 → Int32 → Int32 → qM → Option (Int32 × qM)) : qT (Int32 × qM) := fun lo st m => match lo, st with
  | [some (.ref 80), some (.int a1), some (.int a2), some (.int a3)], [] => k a1 a2 a3 m
  | _, _ => none
set_option maxRecDepth 20000 in
theorem sX1_lastStop_4 {C : qCx} {w : qWp} (h : qOk C w RX1 cX1_lastStop 4 2 155 155) (hm : qMt C (some .int)) (hx : qNx C) {j4 : qT (Int32 × qM)} (k4 : qSnd C w 4 155 (qQf C w 155 155 jI) qfin 155 4 j4) : qSnd C w 4 155 (qQf C w 155 155 jI) qfin 155 4 (tX1_lastStop_4 j4) :=
  cLi (pc := 4) h dX1_lastStop_4 rfl (cLa (pc := 5) h dX1_lastStop_5 rfl (gGf (pc := 6) h dX1_lastStop_6 ff_X1_68_80 (Nat.le_of_ble_eq_true rfl) (Nat.le_of_ble_eq_true rfl) rfl (kCi (pc := 9) h (kd_X1_214 h dX1_lastStop_9) spX4_asks (by decide) (by decide) (by decide) (by decide) (jCGe (pc := 12) h dX1_lastStop_12 rfl (cLi (pc := 32) h dX1_lastStop_32 rfl (zI (pc := 33) h hm (Nat.le_refl _) dX1_lastStop_33)) (cLi (pc := 15) h dX1_lastStop_15 rfl (cLa (pc := 16) h dX1_lastStop_16 rfl (cLi (pc := 17) h dX1_lastStop_17 rfl (cLi (pc := 18) h dX1_lastStop_18 rfl (kCi (pc := 19) h (kd_X1_223 h dX1_lastStop_19) spX1_stopOf (by decide) (by decide) (by decide) (by decide) (kCi (pc := 22) h (kd_X1_94 h dX1_lastStop_22) spJ9_max_7cf53 (by decide) (by decide) (by decide) (by decide) (cSi (pc := 25) h dX1_lastStop_25 rfl (cInc (pc := 26) h dX1_lastStop_26 rfl (jGo (pc := 29) h dX1_lastStop_29 rfl (k4))))))))))))))
set_option maxRecDepth 20000 in
theorem lX1_lastStop_4 (n : Nat) (a1 : Int32) (a2 : Int32) (a3 : Int32) (m : qM) : tX1_lastStop_4 (wX1_lastStop_4 ((fX1_lastStop_4 n))) [some (.ref 80), some (.int a1), some (.int a2), some (.int a3)] [] m = fX1_lastStop_4 (n + 1) a1 a2 a3 m := rfl
theorem bX1_lastStop_4 {C : qCx} {w : qWp} (h : qOk C w RX1 cX1_lastStop 4 2 155 155) (hm : qMt C (some .int)) (hx : qNx C) : ∀ n : Nat, qSnd C w 4 155 (qQf C w 155 155 jI) qfin 155 4 (wX1_lastStop_4 (fX1_lastStop_4 n))
  | 0 => qSnd_of0 (fun lo st m x hr0 => by
    unfold wX1_lastStop_4 at hr0
    split at hr0
    · cases hr0
    · cases hr0)
  | n + 1 => by
    have ih := bX1_lastStop_4 h hm hx n
    exact qSnd_of (fun lo st m x hr0 => by
    unfold wX1_lastStop_4 at hr0
    split at hr0
    · exact ⟨_, (qsub_e (qsub_e (qsub_e (qsub_e qsub_nil)))), (lX1_lastStop_4 n _ _ _ _).trans hr0⟩
    · cases hr0) (sX1_lastStop_4 h hm hx ih)
noncomputable def tX1_lastStop_0 (j4 : qT (Int32 × qM)) : qT (Int32 × qM) :=
  oC (.int (0 : Int32)) (oSi 2 (oC (.int (0 : Int32)) (oSi 3 (j4))))
set_option maxRecDepth 20000 in
theorem sX1_lastStop_0 {C : qCx} {w : qWp} (h : qOk C w RX1 cX1_lastStop 4 2 155 155) (hm : qMt C (some .int)) (hx : qNx C) {j4 : qT (Int32 × qM)} (k4 : qSnd C w 4 155 (qQf C w 155 155 jI) qfin 155 4 j4) : qSnd C w 4 155 (qQf C w 155 155 jI) qfin 155 0 (tX1_lastStop_0 j4) :=
  cC (pc := 0) h dX1_lastStop_0 rfl (cSi (pc := 1) h dX1_lastStop_1 rfl (cC (pc := 2) h dX1_lastStop_2 rfl (cSi (pc := 3) h dX1_lastStop_3 rfl (k4))))
set_option maxRecDepth 20000 in
theorem lX1_lastStop_0 (a1 : Int32) (m : qM) : tX1_lastStop_0 (wX1_lastStop_4 (fX1_lastStop_4 FU)) [some (.ref 80), some (.int a1), none, none] [] m = fX1_lastStop_0 a1 m := rfl
noncomputable def GX1_lastStop : qG Int32 := fun av m => match av with
  | [.ref 80, .int a1] => fX1_lastStop a1 m
  | _ => none
theorem spX1_lastStop : qSpI yX1_lastStop (.code yX1_lastStop cX1_lastStop 4 (some .int)) 2 qfin 155 155 1 GX1_lastStop := by
  intro av m x m' hG
  unfold GX1_lastStop at hG
  split at hG
  · rename_i a1
    rw [fX1_lastStop_d] at hG
    exact ⟨qmeet (J := jI) (r := (x, m')) (av := [.ref 80, .int a1]) (by decide +kernel) (Nat.le_of_ble_eq_true rfl) (fun C w h hm hx hn => sX1_lastStop_0 h hm hx (bX1_lastStop_4 h hm hx FU)) ((lX1_lastStop_0 _ _).trans hG) (Nat.le_of_ble_eq_true rfl), Or.inl ⟨80, _, 1, _, _, rfl, by decide, rfl, qCk_1, rfl⟩⟩
  · cases hG
theorem dX9_size_0 : decode cX9_size 0 = .ok (.aload_n 0, 1) := by decide +kernel
theorem dX9_size_1 : decode cX9_size 1 = .ok (.getfield 27, 3) := by decide +kernel
theorem dX9_size_4 : decode cX9_size 4 = .ok (.ireturn, 1) := by decide +kernel
noncomputable def tX9_size_0 : qT (Int32 × qM) :=
  oLa 0 (oGi 74 5 (eI))
set_option maxRecDepth 20000 in
theorem sX9_size_0 {C : qCx} {w : qWp} (h : qOk C w RX9 cX9_size 1 0 155 155) (hm : qMt C (some .int)) (hx : qNx C) : qSnd C w 1 155 (qQf C w 155 155 jI) qfin 155 0 (tX9_size_0) :=
  cLa (pc := 0) h dX9_size_0 rfl (gGi (pc := 1) h dX9_size_1 ff_X9_27_74 (Nat.le_of_ble_eq_true rfl) (Nat.le_of_ble_eq_true rfl) (zI (pc := 4) h hm (Nat.le_refl _) dX9_size_4))
set_option maxRecDepth 20000 in
theorem lX9_size_0 (m : qM) : tX9_size_0 [some (.ref 74)] [] m = fX9_size_0 m := rfl
noncomputable def GX9_size : qG Int32 := fun av m => match av with
  | [.ref 74] => fX9_size m
  | _ => none
theorem spX9_size : qSpI yX9_size (.code yX9_size cX9_size 1 (some .int)) 0 qfin 155 155 1 GX9_size := by
  intro av m x m' hG
  unfold GX9_size at hG
  split at hG
  · rw [fX9_size_d] at hG
    exact ⟨qmeet (J := jI) (r := (x, m')) (av := [.ref 74]) (by decide +kernel) (Nat.le_of_ble_eq_true rfl) (fun C w h hm hx hn => sX9_size_0 h hm hx) ((lX9_size_0 _).trans hG) (Nat.le_of_ble_eq_true rfl), Or.inl ⟨74, _, 9, _, _, rfl, by decide, rfl, qCk_9, rfl⟩⟩
  · cases hG
theorem dJ9_abs_0f7a4_0 : decode cJ9_abs_0f7a4 0 = .ok (.iload_n 0, 1) := by decide +kernel
theorem dJ9_abs_0f7a4_1 : decode cJ9_abs_0f7a4 1 = .ok (.ifCond .ge 8, 3) := by decide +kernel
theorem dJ9_abs_0f7a4_4 : decode cJ9_abs_0f7a4 4 = .ok (.iload_n 0, 1) := by decide +kernel
theorem dJ9_abs_0f7a4_5 : decode cJ9_abs_0f7a4 5 = .ok (.ineg, 1) := by decide +kernel
theorem dJ9_abs_0f7a4_6 : decode cJ9_abs_0f7a4 6 = .ok (.goto 4, 3) := by decide +kernel
theorem dJ9_abs_0f7a4_9 : decode cJ9_abs_0f7a4 9 = .ok (.iload_n 0, 1) := by decide +kernel
theorem dJ9_abs_0f7a4_10 : decode cJ9_abs_0f7a4 10 = .ok (.ireturn, 1) := by decide +kernel
noncomputable def tJ9_abs_0f7a4_6 : qT (Int32 × qM) :=
  eI
noncomputable def wJ9_abs_0f7a4_6 (k : Int32 → qM → Option (Int32 × qM)) : qT (Int32 × qM) := fun lo st m => match lo, st with
  | [_], [.int s0] => k s0 m
  | _, _ => none
set_option maxRecDepth 20000 in
theorem sJ9_abs_0f7a4_6 {C : qCx} {w : qWp} (h : qOk C w RJ9 cJ9_abs_0f7a4 1 0 155 155) (hm : qMt C (some .int)) (hx : qNx C) : qSnd C w 1 155 (qQf C w 155 155 jI) qfin 155 10 (tJ9_abs_0f7a4_6) :=
  zI (pc := 10) h hm (Nat.le_refl _) dJ9_abs_0f7a4_10
set_option maxRecDepth 20000 in
theorem lJ9_abs_0f7a4_6 (s0 : Int32) (m : qM) : tJ9_abs_0f7a4_6 [none] [(.int s0)] m = fJ9_abs_0f7a4_6 s0 m := rfl
theorem bJ9_abs_0f7a4_6 {C : qCx} {w : qWp} (h : qOk C w RJ9 cJ9_abs_0f7a4 1 0 155 155) (hm : qMt C (some .int)) (hx : qNx C) : qSnd C w 1 155 (qQf C w 155 155 jI) qfin 155 10 (wJ9_abs_0f7a4_6 fJ9_abs_0f7a4_6) :=
  qSnd_of (fun lo st m x hr0 => by
    unfold wJ9_abs_0f7a4_6 at hr0
    split at hr0
    · exact ⟨_, (qsub_n qsub_nil), (lJ9_abs_0f7a4_6 _ _).trans hr0⟩
    · cases hr0) (sJ9_abs_0f7a4_6 h hm hx)
noncomputable def tJ9_abs_0f7a4_0 (j6 : qT (Int32 × qM)) : qT (Int32 × qM) :=
  oLi 0 (oGe (oLi 0 (j6)) (oLi 0 (o1 (-·) (j6))))
set_option maxRecDepth 20000 in
theorem sJ9_abs_0f7a4_0 {C : qCx} {w : qWp} (h : qOk C w RJ9 cJ9_abs_0f7a4 1 0 155 155) (hm : qMt C (some .int)) (hx : qNx C) {j6 : qT (Int32 × qM)} (k6 : qSnd C w 1 155 (qQf C w 155 155 jI) qfin 155 10 j6) : qSnd C w 1 155 (qQf C w 155 155 jI) qfin 155 0 (tJ9_abs_0f7a4_0 j6) :=
  cLi (pc := 0) h dJ9_abs_0f7a4_0 rfl (jGe (pc := 1) h dJ9_abs_0f7a4_1 rfl (cLi (pc := 9) h dJ9_abs_0f7a4_9 rfl (k6)) (cLi (pc := 4) h dJ9_abs_0f7a4_4 rfl (aNeg (pc := 5) h dJ9_abs_0f7a4_5 (jGo (pc := 6) h dJ9_abs_0f7a4_6 rfl (k6)))))
set_option maxRecDepth 20000 in
theorem lJ9_abs_0f7a4_0 (a0 : Int32) (m : qM) : tJ9_abs_0f7a4_0 (wJ9_abs_0f7a4_6 fJ9_abs_0f7a4_6) [some (.int a0)] [] m = fJ9_abs_0f7a4_0 a0 m := rfl
noncomputable def GJ9_abs_0f7a4 : qG Int32 := fun av m => match av with
  | [.int a0] => fJ9_abs_0f7a4 a0 m
  | _ => none
theorem spJ9_abs_0f7a4 : qSpI yJ9_abs_0f7a4 (.code yJ9_abs_0f7a4 cJ9_abs_0f7a4 1 (some .int)) 0 qfin 155 155 0 GJ9_abs_0f7a4 := by
  intro av m x m' hG
  unfold GJ9_abs_0f7a4 at hG
  split at hG
  · rename_i a0
    rw [fJ9_abs_0f7a4_d] at hG
    exact ⟨qmeet (J := jI) (r := (x, m')) (av := [.int a0]) (by decide +kernel) (Nat.le_of_ble_eq_true rfl) (fun C w h hm hx hn => sJ9_abs_0f7a4_0 h hm hx (bJ9_abs_0f7a4_6 h hm hx)) ((lJ9_abs_0f7a4_0 _ _).trans hG) (Nat.le_of_ble_eq_true rfl), trivial⟩
  · cases hG
theorem im_J9_abs_0f7a4 : Jvm.Cond.static yJ9_abs_0f7a4 ∈ qTw := qm3 (List.mem_of_getElem? (i := 125) (by decide +kernel)) (by decide +kernel)
theorem co_J9_abs_0f7a4 : Jvm.Cond.code yJ9_abs_0f7a4 cJ9_abs_0f7a4 1 (some .int) ∈ qTw := qm3 (List.mem_of_getElem? (i := 126) (by decide +kernel)) (by decide +kernel)
theorem yk_J9_abs_0f7a4 : qYk yJ9_abs_0f7a4 1 := ⟨⟨by decide +kernel, by decide +kernel⟩, by decide +kernel⟩
theorem ml_X1_232 : Jvm.Cond.methodLink RX1 232 yJ9_abs_0f7a4 ∈ qTw := qm6 (List.mem_of_getElem? (i := 9) (by decide +kernel)) (by decide +kernel)
theorem kd_X1_232 {C : qCx} {w : qWp} {cc : ByteArray} {nL dp n0 n1 pc : Nat} (h : qOk C w RX1 cc nL dp n0 n1) (d : decode cc pc = .ok (.invokestatic 232, 3)) : qCallOk C w nL dp n0 n1 pc 1 0 yJ9_abs_0f7a4 (.code yJ9_abs_0f7a4 cJ9_abs_0f7a4 1 (some .int)) := kindS h d ml_X1_232 im_J9_abs_0f7a4 in_java_lang_Math co_J9_abs_0f7a4 yk_J9_abs_0f7a4 (by decide)
theorem dX1_howFar_0 : decode cX1_howFar 0 = .ok (.iload_n 0, 1) := by decide +kernel
theorem dX1_howFar_1 : decode cX1_howFar 1 = .ok (.iconst (-1), 1) := by decide +kernel
theorem dX1_howFar_2 : decode cX1_howFar 2 = .ok (.if_icmp .eq 8, 3) := by decide +kernel
theorem dX1_howFar_5 : decode cX1_howFar 5 = .ok (.iload_n 1, 1) := by decide +kernel
theorem dX1_howFar_6 : decode cX1_howFar 6 = .ok (.iconst (-1), 1) := by decide +kernel
theorem dX1_howFar_7 : decode cX1_howFar 7 = .ok (.if_icmp .ne 15, 3) := by decide +kernel
theorem dX1_howFar_10 : decode cX1_howFar 10 = .ok (.iload_n 0, 1) := by decide +kernel
theorem dX1_howFar_11 : decode cX1_howFar 11 = .ok (.iload_n 1, 1) := by decide +kernel
theorem dX1_howFar_12 : decode cX1_howFar 12 = .ok (.if_icmp .ne 7, 3) := by decide +kernel
theorem dX1_howFar_15 : decode cX1_howFar 15 = .ok (.iconst 0, 1) := by decide +kernel
theorem dX1_howFar_16 : decode cX1_howFar 16 = .ok (.goto 5, 3) := by decide +kernel
theorem dX1_howFar_19 : decode cX1_howFar 19 = .ok (.bipush 30, 2) := by decide +kernel
theorem dX1_howFar_21 : decode cX1_howFar 21 = .ok (.ireturn, 1) := by decide +kernel
theorem dX1_howFar_22 : decode cX1_howFar 22 = .ok (.iload_n 0, 1) := by decide +kernel
theorem dX1_howFar_23 : decode cX1_howFar 23 = .ok (.iload_n 1, 1) := by decide +kernel
theorem dX1_howFar_24 : decode cX1_howFar 24 = .ok (.isub, 1) := by decide +kernel
theorem dX1_howFar_25 : decode cX1_howFar 25 = .ok (.invokestatic 232, 3) := by decide +kernel
theorem dX1_howFar_28 : decode cX1_howFar 28 = .ok (.ireturn, 1) := by decide +kernel
noncomputable def tX1_howFar_12 : qT (Int32 × qM) :=
  eI
noncomputable def wX1_howFar_12 (k : Int32 → qM → Option (Int32 × qM)) : qT (Int32 × qM) := fun lo st m => match lo, st with
  | [_, _], [.int s0] => k s0 m
  | _, _ => none
set_option maxRecDepth 20000 in
theorem sX1_howFar_12 {C : qCx} {w : qWp} (h : qOk C w RX1 cX1_howFar 2 1 155 155) (hm : qMt C (some .int)) (hx : qNx C) : qSnd C w 2 155 (qQf C w 155 155 jI) qfin 155 21 (tX1_howFar_12) :=
  zI (pc := 21) h hm (Nat.le_refl _) dX1_howFar_21
set_option maxRecDepth 20000 in
theorem lX1_howFar_12 (s0 : Int32) (m : qM) : tX1_howFar_12 [none, none] [(.int s0)] m = fX1_howFar_12 s0 m := rfl
theorem bX1_howFar_12 {C : qCx} {w : qWp} (h : qOk C w RX1 cX1_howFar 2 1 155 155) (hm : qMt C (some .int)) (hx : qNx C) : qSnd C w 2 155 (qQf C w 155 155 jI) qfin 155 21 (wX1_howFar_12 fX1_howFar_12) :=
  qSnd_of (fun lo st m x hr0 => by
    unfold wX1_howFar_12 at hr0
    split at hr0
    · exact ⟨_, (qsub_n (qsub_n qsub_nil)), (lX1_howFar_12 _ _).trans hr0⟩
    · cases hr0) (sX1_howFar_12 h hm hx)
noncomputable def tX1_howFar_6 (j12 : qT (Int32 × qM)) : qT (Int32 × qM) :=
  oLi 0 (oLi 1 (oCEq (oC (.int (0 : Int32)) (j12)) (oC (.int (30 : Int32)) (j12))))
noncomputable def wX1_howFar_6 (k : Int32 → Int32 → qM → Option (Int32 × qM)) : qT (Int32 × qM) := fun lo st m => match lo, st with
  | [some (.int a0), some (.int a1)], [] => k a0 a1 m
  | _, _ => none
set_option maxRecDepth 20000 in
theorem sX1_howFar_6 {C : qCx} {w : qWp} (h : qOk C w RX1 cX1_howFar 2 1 155 155) (hm : qMt C (some .int)) (hx : qNx C) {j12 : qT (Int32 × qM)} (k12 : qSnd C w 2 155 (qQf C w 155 155 jI) qfin 155 21 j12) : qSnd C w 2 155 (qQf C w 155 155 jI) qfin 155 10 (tX1_howFar_6 j12) :=
  cLi (pc := 10) h dX1_howFar_10 rfl (cLi (pc := 11) h dX1_howFar_11 rfl (jCNe (pc := 12) h dX1_howFar_12 rfl (cB (pc := 19) h dX1_howFar_19 rfl (k12)) (cC (pc := 15) h dX1_howFar_15 rfl (jGo (pc := 16) h dX1_howFar_16 rfl (k12)))))
set_option maxRecDepth 20000 in
theorem lX1_howFar_6 (a0 : Int32) (a1 : Int32) (m : qM) : tX1_howFar_6 (wX1_howFar_12 fX1_howFar_12) [some (.int a0), some (.int a1)] [] m = fX1_howFar_6 a0 a1 m := rfl
theorem bX1_howFar_6 {C : qCx} {w : qWp} (h : qOk C w RX1 cX1_howFar 2 1 155 155) (hm : qMt C (some .int)) (hx : qNx C) : qSnd C w 2 155 (qQf C w 155 155 jI) qfin 155 10 (wX1_howFar_6 fX1_howFar_6) :=
  qSnd_of (fun lo st m x hr0 => by
    unfold wX1_howFar_6 at hr0
    split at hr0
    · exact ⟨_, (qsub_e (qsub_e qsub_nil)), (lX1_howFar_6 _ _ _).trans hr0⟩
    · cases hr0) (sX1_howFar_6 h hm hx (bX1_howFar_12 h hm hx))
noncomputable def tX1_howFar_0 (j6 : qT (Int32 × qM)) : qT (Int32 × qM) :=
  oLi 0 (oC (.int (-1 : Int32)) (oCEq (j6) (oLi 1 (oC (.int (-1 : Int32)) (oCEq (j6) (oLi 0 (oLi 1 (o2 (· - ·) (oCi GJ9_abs_0f7a4 1 (eI))))))))))
set_option maxRecDepth 20000 in
theorem sX1_howFar_0 {C : qCx} {w : qWp} (h : qOk C w RX1 cX1_howFar 2 1 155 155) (hm : qMt C (some .int)) (hx : qNx C) {j6 : qT (Int32 × qM)} (k6 : qSnd C w 2 155 (qQf C w 155 155 jI) qfin 155 10 j6) : qSnd C w 2 155 (qQf C w 155 155 jI) qfin 155 0 (tX1_howFar_0 j6) :=
  cLi (pc := 0) h dX1_howFar_0 rfl (cC (pc := 1) h dX1_howFar_1 rfl (jCEq (pc := 2) h dX1_howFar_2 rfl (k6) (cLi (pc := 5) h dX1_howFar_5 rfl (cC (pc := 6) h dX1_howFar_6 rfl (jCNe (pc := 7) h dX1_howFar_7 rfl (cLi (pc := 22) h dX1_howFar_22 rfl (cLi (pc := 23) h dX1_howFar_23 rfl (aSub (pc := 24) h dX1_howFar_24 (kCi (pc := 25) h (kd_X1_232 h dX1_howFar_25) spJ9_abs_0f7a4 (by decide) (by decide) (by decide) (by decide) (zI (pc := 28) h hm (Nat.le_refl _) dX1_howFar_28))))) (k6))))))
set_option maxRecDepth 20000 in
theorem lX1_howFar_0 (a0 : Int32) (a1 : Int32) (m : qM) : tX1_howFar_0 (wX1_howFar_6 fX1_howFar_6) [some (.int a0), some (.int a1)] [] m = fX1_howFar_0 a0 a1 m := rfl
noncomputable def GX1_howFar : qG Int32 := fun av m => match av with
  | [.int a0, .int a1] => fX1_howFar a0 a1 m
  | _ => none
theorem spX1_howFar : qSpI yX1_howFar (.code yX1_howFar cX1_howFar 2 (some .int)) 1 qfin 155 155 0 GX1_howFar := by
  intro av m x m' hG
  unfold GX1_howFar at hG
  split at hG
  · rename_i a0 a1
    rw [fX1_howFar_d] at hG
    exact ⟨qmeet (J := jI) (r := (x, m')) (av := [.int a0, .int a1]) (by decide +kernel) (Nat.le_of_ble_eq_true rfl) (fun C w h hm hx hn => sX1_howFar_0 h hm hx (bX1_howFar_6 h hm hx)) ((lX1_howFar_0 _ _ _).trans hG) (Nat.le_of_ble_eq_true rfl), trivial⟩
  · cases hG
theorem im_X9_size : Jvm.Cond.instanceMethod yX9_size ∈ qTw := qm5 (List.mem_of_getElem? (i := 235) (by decide +kernel)) (by decide +kernel)
theorem se_X9_size : Jvm.Cond.selects yX9_size.cls yX9_size yX9_size ∈ qTw := qm5 (List.mem_of_getElem? (i := 236) (by decide +kernel)) (by decide +kernel)
theorem co_X9_size : Jvm.Cond.code yX9_size cX9_size 1 (some .int) ∈ qTw := qm5 (List.mem_of_getElem? (i := 237) (by decide +kernel)) (by decide +kernel)
theorem yk_X9_size : qYk yX9_size 0 := ⟨⟨by decide +kernel, by decide +kernel⟩, by decide +kernel⟩
theorem ml_X1_226 : Jvm.Cond.methodLink RX1 226 yX9_size ∈ qTw := qm6 (List.mem_of_getElem? (i := 5) (by decide +kernel)) (by decide +kernel)
theorem kd_X1_226 {C : qCx} {w : qWp} {cc : ByteArray} {nL dp n0 n1 pc : Nat} (h : qOk C w RX1 cc nL dp n0 n1) (d : decode cc pc = .ok (.invokevirtual 226, 3)) : qCallOk C w nL dp n0 n1 pc 1 1 yX9_size (.code yX9_size cX9_size 1 (some .int)) := kindV h d ml_X1_226 im_X9_size se_X9_size in_ParentEve_Tellings co_X9_size yk_X9_size (by decide)
theorem im_X1_howFar : Jvm.Cond.static yX1_howFar ∈ qTw := qm6 (List.mem_of_getElem? (i := 7) (by decide +kernel)) (by decide +kernel)
theorem co_X1_howFar : Jvm.Cond.code yX1_howFar cX1_howFar 2 (some .int) ∈ qTw := qm6 (List.mem_of_getElem? (i := 8) (by decide +kernel)) (by decide +kernel)
theorem yk_X1_howFar : qYk yX1_howFar 2 := ⟨⟨by decide +kernel, by decide +kernel⟩, by decide +kernel⟩
theorem ml_X1_229 : Jvm.Cond.methodLink RX1 229 yX1_howFar ∈ qTw := qm6 (List.mem_of_getElem? (i := 6) (by decide +kernel)) (by decide +kernel)
theorem kd_X1_229 {C : qCx} {w : qWp} {cc : ByteArray} {nL dp n0 n1 pc : Nat} (h : qOk C w RX1 cc nL dp n0 n1) (d : decode cc pc = .ok (.invokestatic 229, 3)) : qCallOk C w nL dp n0 n1 pc 2 0 yX1_howFar (.code yX1_howFar cX1_howFar 2 (some .int)) := kindS h d ml_X1_229 im_X1_howFar in_ParentEve_Evening co_X1_howFar yk_X1_howFar (by decide)
theorem dX1_offAt_0 : decode cX1_offAt 0 = .ok (.iconst 0, 1) := by decide +kernel
theorem dX1_offAt_1 : decode cX1_offAt 1 = .ok (.istore_n 3, 1) := by decide +kernel
theorem dX1_offAt_2 : decode cX1_offAt 2 = .ok (.iconst 0, 1) := by decide +kernel
theorem dX1_offAt_3 : decode cX1_offAt 3 = .ok (.istore 4, 2) := by decide +kernel
theorem dX1_offAt_5 : decode cX1_offAt 5 = .ok (.iload 4, 2) := by decide +kernel
theorem dX1_offAt_7 : decode cX1_offAt 7 = .ok (.aload_n 0, 1) := by decide +kernel
theorem dX1_offAt_8 : decode cX1_offAt 8 = .ok (.getfield 68, 3) := by decide +kernel
theorem dX1_offAt_11 : decode cX1_offAt 11 = .ok (.invokevirtual 214, 3) := by decide +kernel
theorem dX1_offAt_14 : decode cX1_offAt 14 = .ok (.if_icmp .ge 63, 3) := by decide +kernel
theorem dX1_offAt_17 : decode cX1_offAt 17 = .ok (.aload_n 0, 1) := by decide +kernel
theorem dX1_offAt_18 : decode cX1_offAt 18 = .ok (.iload 4, 2) := by decide +kernel
theorem dX1_offAt_20 : decode cX1_offAt 20 = .ok (.iload_n 2, 1) := by decide +kernel
theorem dX1_offAt_21 : decode cX1_offAt 21 = .ok (.invokevirtual 220, 3) := by decide +kernel
theorem dX1_offAt_24 : decode cX1_offAt 24 = .ok (.istore 5, 2) := by decide +kernel
theorem dX1_offAt_26 : decode cX1_offAt 26 = .ok (.aload_n 0, 1) := by decide +kernel
theorem dX1_offAt_27 : decode cX1_offAt 27 = .ok (.getfield 68, 3) := by decide +kernel
theorem dX1_offAt_30 : decode cX1_offAt 30 = .ok (.iload 4, 2) := by decide +kernel
theorem dX1_offAt_32 : decode cX1_offAt 32 = .ok (.invokevirtual 217, 3) := by decide +kernel
theorem dX1_offAt_35 : decode cX1_offAt 35 = .ok (.ifCond .eq 36, 3) := by decide +kernel
theorem dX1_offAt_38 : decode cX1_offAt 38 = .ok (.iload 5, 2) := by decide +kernel
theorem dX1_offAt_40 : decode cX1_offAt 40 = .ok (.iconst (-1), 1) := by decide +kernel
theorem dX1_offAt_41 : decode cX1_offAt 41 = .ok (.if_icmp .eq 9, 3) := by decide +kernel
theorem dX1_offAt_44 : decode cX1_offAt 44 = .ok (.iload 5, 2) := by decide +kernel
theorem dX1_offAt_46 : decode cX1_offAt 46 = .ok (.iload_n 1, 1) := by decide +kernel
theorem dX1_offAt_47 : decode cX1_offAt 47 = .ok (.if_icmp .le 24, 3) := by decide +kernel
theorem dX1_offAt_50 : decode cX1_offAt 50 = .ok (.iload_n 3, 1) := by decide +kernel
theorem dX1_offAt_51 : decode cX1_offAt 51 = .ok (.iload 5, 2) := by decide +kernel
theorem dX1_offAt_53 : decode cX1_offAt 53 = .ok (.aload_n 0, 1) := by decide +kernel
theorem dX1_offAt_54 : decode cX1_offAt 54 = .ok (.iload 4, 2) := by decide +kernel
theorem dX1_offAt_56 : decode cX1_offAt 56 = .ok (.aload_n 0, 1) := by decide +kernel
theorem dX1_offAt_57 : decode cX1_offAt 57 = .ok (.getfield 72, 3) := by decide +kernel
theorem dX1_offAt_60 : decode cX1_offAt 60 = .ok (.invokevirtual 226, 3) := by decide +kernel
theorem dX1_offAt_63 : decode cX1_offAt 63 = .ok (.invokevirtual 220, 3) := by decide +kernel
theorem dX1_offAt_66 : decode cX1_offAt 66 = .ok (.invokestatic 229, 3) := by decide +kernel
theorem dX1_offAt_69 : decode cX1_offAt 69 = .ok (.iadd, 1) := by decide +kernel
theorem dX1_offAt_70 : decode cX1_offAt 70 = .ok (.istore_n 3, 1) := by decide +kernel
theorem dX1_offAt_71 : decode cX1_offAt 71 = .ok (.iinc 4 1, 3) := by decide +kernel
theorem dX1_offAt_74 : decode cX1_offAt 74 = .ok (.goto (-69), 3) := by decide +kernel
theorem dX1_offAt_77 : decode cX1_offAt 77 = .ok (.iload_n 3, 1) := by decide +kernel
theorem dX1_offAt_78 : decode cX1_offAt 78 = .ok (.ireturn, 1) := by decide +kernel
noncomputable def tX1_offAt_36 (j4 : qT (Int32 × qM)) : qT (Int32 × qM) :=
  oInc 4 (1 : Int32) (j4)
noncomputable def wX1_offAt_36 (k : Int32 → Int32 → Int32 → Int32 → qM → Option (Int32 × qM)) : qT (Int32 × qM) := fun lo st m => match lo, st with
  | [some (.ref 80), some (.int a1), some (.int a2), some (.int a3), some (.int a4), _], [] => k a1 a2 a3 a4 m
  | _, _ => none
noncomputable def wX1_offAt_4 (k : Int32 → Int32 → Int32 → Int32 → qM → Option (Int32 × qM)) : qT (Int32 × qM) := fun lo st m => match lo, st with
  | [some (.ref 80), some (.int a1), some (.int a2), some (.int a3), some (.int a4), _], [] => k a1 a2 a3 a4 m
  | _, _ => none
set_option maxRecDepth 20000 in
theorem sX1_offAt_36 {C : qCx} {w : qWp} (h : qOk C w RX1 cX1_offAt 6 2 155 155) (hm : qMt C (some .int)) (hx : qNx C) {j4 : qT (Int32 × qM)} (k4 : qSnd C w 6 155 (qQf C w 155 155 jI) qfin 155 5 j4) : qSnd C w 6 155 (qQf C w 155 155 jI) qfin 155 71 (tX1_offAt_36 j4) :=
  cInc (pc := 71) h dX1_offAt_71 rfl (jGo (pc := 74) h dX1_offAt_74 rfl (k4))
set_option maxRecDepth 20000 in
theorem lX1_offAt_36 (k4 : Int32 → Int32 → Int32 → Int32 → qM → Option (Int32 × qM)) (a1 : Int32) (a2 : Int32) (a3 : Int32) (a4 : Int32) (m : qM) : tX1_offAt_36 (wX1_offAt_4 k4) [some (.ref 80), some (.int a1), some (.int a2), some (.int a3), some (.int a4), none] [] m = fX1_offAt_36 k4 a1 a2 a3 a4 m := rfl
theorem bX1_offAt_36 {C : qCx} {w : qWp} (h : qOk C w RX1 cX1_offAt 6 2 155 155) (hm : qMt C (some .int)) (hx : qNx C) {k4 : Int32 → Int32 → Int32 → Int32 → qM → Option (Int32 × qM)} (h4 : qSnd C w 6 155 (qQf C w 155 155 jI) qfin 155 5 (wX1_offAt_4 k4)) : qSnd C w 6 155 (qQf C w 155 155 jI) qfin 155 71 (wX1_offAt_36 (fX1_offAt_36 k4)) :=
  qSnd_of (fun lo st m x hr0 => by
    unfold wX1_offAt_36 at hr0
    split at hr0
    · exact ⟨_, (qsub_e (qsub_e (qsub_e (qsub_e (qsub_e (qsub_n qsub_nil)))))), (lX1_offAt_36 _ _ _ _ _ _).trans hr0⟩
    · cases hr0) (sX1_offAt_36 h hm hx h4)
noncomputable def tX1_offAt_25 (j36 : qT (Int32 × qM)) : qT (Int32 × qM) :=
  oLi 3 (oLi 5 (oLa 0 (oLi 4 (oLa 0 (oGf 80 4 74 (oCi GX9_size 1 (oCi GX1_startOf 3 (oCi GX1_howFar 2 (o2 (· + ·) (oSi 3 (j36)))))))))))
noncomputable def wX1_offAt_25 (k : Int32 → Int32 → Int32 → Int32 → Int32 → qM → Option (Int32 × qM)) : qT (Int32 × qM) := fun lo st m => match lo, st with
  | [some (.ref 80), some (.int a1), some (.int a2), some (.int a3), some (.int a4), some (.int a5)], [] => k a1 a2 a3 a4 a5 m
  | _, _ => none
set_option maxRecDepth 20000 in
theorem sX1_offAt_25 {C : qCx} {w : qWp} (h : qOk C w RX1 cX1_offAt 6 2 155 155) (hm : qMt C (some .int)) (hx : qNx C) {j36 : qT (Int32 × qM)} (k36 : qSnd C w 6 155 (qQf C w 155 155 jI) qfin 155 71 j36) : qSnd C w 6 155 (qQf C w 155 155 jI) qfin 155 50 (tX1_offAt_25 j36) :=
  cLi (pc := 50) h dX1_offAt_50 rfl (cLI (pc := 51) h dX1_offAt_51 (cLa (pc := 53) h dX1_offAt_53 rfl (cLI (pc := 54) h dX1_offAt_54 (cLa (pc := 56) h dX1_offAt_56 rfl (gGf (pc := 57) h dX1_offAt_57 ff_X1_72_80 (Nat.le_of_ble_eq_true rfl) (Nat.le_of_ble_eq_true rfl) rfl (kCi (pc := 60) h (kd_X1_226 h dX1_offAt_60) spX9_size (by decide) (by decide) (by decide) (by decide) (kCi (pc := 63) h (kd_X1_220 h dX1_offAt_63) spX1_startOf (by decide) (by decide) (by decide) (by decide) (kCi (pc := 66) h (kd_X1_229 h dX1_offAt_66) spX1_howFar (by decide) (by decide) (by decide) (by decide) (aAdd (pc := 69) h dX1_offAt_69 (cSi (pc := 70) h dX1_offAt_70 rfl (k36)))))))))))
set_option maxRecDepth 20000 in
theorem lX1_offAt_25 (k4 : Int32 → Int32 → Int32 → Int32 → qM → Option (Int32 × qM)) (a1 : Int32) (a2 : Int32) (a3 : Int32) (a4 : Int32) (a5 : Int32) (m : qM) : tX1_offAt_25 (wX1_offAt_36 (fX1_offAt_36 k4)) [some (.ref 80), some (.int a1), some (.int a2), some (.int a3), some (.int a4), some (.int a5)] [] m = fX1_offAt_25 k4 a1 a2 a3 a4 a5 m := rfl
theorem bX1_offAt_25 {C : qCx} {w : qWp} (h : qOk C w RX1 cX1_offAt 6 2 155 155) (hm : qMt C (some .int)) (hx : qNx C) {k4 : Int32 → Int32 → Int32 → Int32 → qM → Option (Int32 × qM)} (h4 : qSnd C w 6 155 (qQf C w 155 155 jI) qfin 155 5 (wX1_offAt_4 k4)) : qSnd C w 6 155 (qQf C w 155 155 jI) qfin 155 50 (wX1_offAt_25 (fX1_offAt_25 k4)) :=
  qSnd_of (fun lo st m x hr0 => by
    unfold wX1_offAt_25 at hr0
    split at hr0
    · exact ⟨_, (qsub_e (qsub_e (qsub_e (qsub_e (qsub_e (qsub_e qsub_nil)))))), (lX1_offAt_25 _ _ _ _ _ _ _).trans hr0⟩
    · cases hr0) (sX1_offAt_25 h hm hx (bX1_offAt_36 h hm hx h4))
noncomputable def tX1_offAt_4 (j36 : qT (Int32 × qM)) (j25 : qT (Int32 × qM)) : qT (Int32 × qM) :=
  oLi 4 (oLa 0 (oGf 80 3 58 (oCi GX4_asks 1 (oCGe (oLi 3 (eI)) (oLa 0 (oLi 4 (oLi 2 (oCi GX1_startOf 3 (oSi 5 (oLa 0 (oGf 80 3 58 (oLi 4 (oCi GX4_isLaid 2 (oEq (j36) (oLi 5 (oC (.int (-1 : Int32)) (oCEq (j25) (oLi 5 (oLi 1 (oCLe (j36) (j25)))))))))))))))))))))
set_option maxRecDepth 20000 in
theorem sX1_offAt_4 {C : qCx} {w : qWp} (h : qOk C w RX1 cX1_offAt 6 2 155 155) (hm : qMt C (some .int)) (hx : qNx C) {j36 : qT (Int32 × qM)} {j25 : qT (Int32 × qM)} (k36 : qSnd C w 6 155 (qQf C w 155 155 jI) qfin 155 71 j36) (k25 : qSnd C w 6 155 (qQf C w 155 155 jI) qfin 155 50 j25) : qSnd C w 6 155 (qQf C w 155 155 jI) qfin 155 5 (tX1_offAt_4 j36 j25) :=
  cLI (pc := 5) h dX1_offAt_5 (cLa (pc := 7) h dX1_offAt_7 rfl (gGf (pc := 8) h dX1_offAt_8 ff_X1_68_80 (Nat.le_of_ble_eq_true rfl) (Nat.le_of_ble_eq_true rfl) rfl (kCi (pc := 11) h (kd_X1_214 h dX1_offAt_11) spX4_asks (by decide) (by decide) (by decide) (by decide) (jCGe (pc := 14) h dX1_offAt_14 rfl (cLi (pc := 77) h dX1_offAt_77 rfl (zI (pc := 78) h hm (Nat.le_refl _) dX1_offAt_78)) (cLa (pc := 17) h dX1_offAt_17 rfl (cLI (pc := 18) h dX1_offAt_18 (cLi (pc := 20) h dX1_offAt_20 rfl (kCi (pc := 21) h (kd_X1_220 h dX1_offAt_21) spX1_startOf (by decide) (by decide) (by decide) (by decide) (cSI (pc := 24) h dX1_offAt_24 (cLa (pc := 26) h dX1_offAt_26 rfl (gGf (pc := 27) h dX1_offAt_27 ff_X1_68_80 (Nat.le_of_ble_eq_true rfl) (Nat.le_of_ble_eq_true rfl) rfl (cLI (pc := 30) h dX1_offAt_30 (kCi (pc := 32) h (kd_X1_217 h dX1_offAt_32) spX4_isLaid (by decide) (by decide) (by decide) (by decide) (jEq (pc := 35) h dX1_offAt_35 rfl (k36) (cLI (pc := 38) h dX1_offAt_38 (cC (pc := 40) h dX1_offAt_40 rfl (jCEq (pc := 41) h dX1_offAt_41 rfl (k25) (cLI (pc := 44) h dX1_offAt_44 (cLi (pc := 46) h dX1_offAt_46 rfl (jCLe (pc := 47) h dX1_offAt_47 rfl (k36) (k25)))))))))))))))))))))
set_option maxRecDepth 20000 in
theorem lX1_offAt_4 (n : Nat) (a1 : Int32) (a2 : Int32) (a3 : Int32) (a4 : Int32) (m : qM) : tX1_offAt_4 (wX1_offAt_36 (fX1_offAt_36 (fX1_offAt_4 n))) (wX1_offAt_25 (fX1_offAt_25 (fX1_offAt_4 n))) [some (.ref 80), some (.int a1), some (.int a2), some (.int a3), some (.int a4), none] [] m = fX1_offAt_4 (n + 1) a1 a2 a3 a4 m := rfl
theorem bX1_offAt_4 {C : qCx} {w : qWp} (h : qOk C w RX1 cX1_offAt 6 2 155 155) (hm : qMt C (some .int)) (hx : qNx C) : ∀ n : Nat, qSnd C w 6 155 (qQf C w 155 155 jI) qfin 155 5 (wX1_offAt_4 (fX1_offAt_4 n))
  | 0 => qSnd_of0 (fun lo st m x hr0 => by
    unfold wX1_offAt_4 at hr0
    split at hr0
    · cases hr0
    · cases hr0)
  | n + 1 => by
    have ih := bX1_offAt_4 h hm hx n
    exact qSnd_of (fun lo st m x hr0 => by
    unfold wX1_offAt_4 at hr0
    split at hr0
    · exact ⟨_, (qsub_e (qsub_e (qsub_e (qsub_e (qsub_e (qsub_n qsub_nil)))))), (lX1_offAt_4 n _ _ _ _ _).trans hr0⟩
    · cases hr0) (sX1_offAt_4 h hm hx (bX1_offAt_36 h hm hx ih) (bX1_offAt_25 h hm hx ih))
noncomputable def tX1_offAt_0 (j4 : qT (Int32 × qM)) : qT (Int32 × qM) :=
  oC (.int (0 : Int32)) (oSi 3 (oC (.int (0 : Int32)) (oSi 4 (j4))))
set_option maxRecDepth 20000 in
theorem sX1_offAt_0 {C : qCx} {w : qWp} (h : qOk C w RX1 cX1_offAt 6 2 155 155) (hm : qMt C (some .int)) (hx : qNx C) {j4 : qT (Int32 × qM)} (k4 : qSnd C w 6 155 (qQf C w 155 155 jI) qfin 155 5 j4) : qSnd C w 6 155 (qQf C w 155 155 jI) qfin 155 0 (tX1_offAt_0 j4) :=
  cC (pc := 0) h dX1_offAt_0 rfl (cSi (pc := 1) h dX1_offAt_1 rfl (cC (pc := 2) h dX1_offAt_2 rfl (cSI (pc := 3) h dX1_offAt_3 (k4))))
set_option maxRecDepth 20000 in
theorem lX1_offAt_0 (a1 : Int32) (a2 : Int32) (m : qM) : tX1_offAt_0 (wX1_offAt_4 (fX1_offAt_4 FU)) [some (.ref 80), some (.int a1), some (.int a2), none, none, none] [] m = fX1_offAt_0 a1 a2 m := rfl
noncomputable def GX1_offAt : qG Int32 := fun av m => match av with
  | [.ref 80, .int a1, .int a2] => fX1_offAt a1 a2 m
  | _ => none
theorem spX1_offAt : qSpI yX1_offAt (.code yX1_offAt cX1_offAt 6 (some .int)) 2 qfin 155 155 1 GX1_offAt := by
  intro av m x m' hG
  unfold GX1_offAt at hG
  split at hG
  · rename_i a1 a2
    rw [fX1_offAt_d] at hG
    exact ⟨qmeet (J := jI) (r := (x, m')) (av := [.ref 80, .int a1, .int a2]) (by decide +kernel) (Nat.le_of_ble_eq_true rfl) (fun C w h hm hx hn => sX1_offAt_0 h hm hx (bX1_offAt_4 h hm hx FU)) ((lX1_offAt_0 _ _ _).trans hG) (Nat.le_of_ble_eq_true rfl), Or.inl ⟨80, _, 1, _, _, rfl, by decide, rfl, qCk_1, rfl⟩⟩
  · cases hG
theorem dX1_nextOf_0 : decode cX1_nextOf 0 = .ok (.iconst (-1), 1) := by decide +kernel
theorem dX1_nextOf_1 : decode cX1_nextOf 1 = .ok (.istore 4, 2) := by decide +kernel
theorem dX1_nextOf_3 : decode cX1_nextOf 3 = .ok (.sipush 800, 3) := by decide +kernel
theorem dX1_nextOf_6 : decode cX1_nextOf 6 = .ok (.istore 5, 2) := by decide +kernel
theorem dX1_nextOf_8 : decode cX1_nextOf 8 = .ok (.iconst 0, 1) := by decide +kernel
theorem dX1_nextOf_9 : decode cX1_nextOf 9 = .ok (.istore 6, 2) := by decide +kernel
theorem dX1_nextOf_11 : decode cX1_nextOf 11 = .ok (.iload 6, 2) := by decide +kernel
theorem dX1_nextOf_13 : decode cX1_nextOf 13 = .ok (.aload_n 0, 1) := by decide +kernel
theorem dX1_nextOf_14 : decode cX1_nextOf 14 = .ok (.getfield 68, 3) := by decide +kernel
theorem dX1_nextOf_17 : decode cX1_nextOf 17 = .ok (.invokevirtual 214, 3) := by decide +kernel
theorem dX1_nextOf_20 : decode cX1_nextOf 20 = .ok (.if_icmp .ge 52, 3) := by decide +kernel
theorem dX1_nextOf_23 : decode cX1_nextOf 23 = .ok (.aload_n 0, 1) := by decide +kernel
theorem dX1_nextOf_24 : decode cX1_nextOf 24 = .ok (.iload 6, 2) := by decide +kernel
theorem dX1_nextOf_26 : decode cX1_nextOf 26 = .ok (.iload_n 3, 1) := by decide +kernel
theorem dX1_nextOf_27 : decode cX1_nextOf 27 = .ok (.invokevirtual 220, 3) := by decide +kernel
theorem dX1_nextOf_30 : decode cX1_nextOf 30 = .ok (.istore 7, 2) := by decide +kernel
theorem dX1_nextOf_32 : decode cX1_nextOf 32 = .ok (.aload_n 0, 1) := by decide +kernel
theorem dX1_nextOf_33 : decode cX1_nextOf 33 = .ok (.getfield 68, 3) := by decide +kernel
theorem dX1_nextOf_36 : decode cX1_nextOf 36 = .ok (.iload 6, 2) := by decide +kernel
theorem dX1_nextOf_38 : decode cX1_nextOf 38 = .ok (.invokevirtual 202, 3) := by decide +kernel
theorem dX1_nextOf_41 : decode cX1_nextOf 41 = .ok (.iload_n 1, 1) := by decide +kernel
theorem dX1_nextOf_42 : decode cX1_nextOf 42 = .ok (.if_icmp .ne 24, 3) := by decide +kernel
theorem dX1_nextOf_45 : decode cX1_nextOf 45 = .ok (.iload 7, 2) := by decide +kernel
theorem dX1_nextOf_47 : decode cX1_nextOf 47 = .ok (.iload_n 2, 1) := by decide +kernel
theorem dX1_nextOf_48 : decode cX1_nextOf 48 = .ok (.if_icmp .le 18, 3) := by decide +kernel
theorem dX1_nextOf_51 : decode cX1_nextOf 51 = .ok (.iload 7, 2) := by decide +kernel
theorem dX1_nextOf_53 : decode cX1_nextOf 53 = .ok (.iload 5, 2) := by decide +kernel
theorem dX1_nextOf_55 : decode cX1_nextOf 55 = .ok (.if_icmp .ge 11, 3) := by decide +kernel
theorem dX1_nextOf_58 : decode cX1_nextOf 58 = .ok (.iload 6, 2) := by decide +kernel
theorem dX1_nextOf_60 : decode cX1_nextOf 60 = .ok (.istore 4, 2) := by decide +kernel
theorem dX1_nextOf_62 : decode cX1_nextOf 62 = .ok (.iload 7, 2) := by decide +kernel
theorem dX1_nextOf_64 : decode cX1_nextOf 64 = .ok (.istore 5, 2) := by decide +kernel
theorem dX1_nextOf_66 : decode cX1_nextOf 66 = .ok (.iinc 6 1, 3) := by decide +kernel
theorem dX1_nextOf_69 : decode cX1_nextOf 69 = .ok (.goto (-58), 3) := by decide +kernel
theorem dX1_nextOf_72 : decode cX1_nextOf 72 = .ok (.iload 4, 2) := by decide +kernel
theorem dX1_nextOf_74 : decode cX1_nextOf 74 = .ok (.ireturn, 1) := by decide +kernel
noncomputable def tX1_nextOf_32 (j6 : qT (Int32 × qM)) : qT (Int32 × qM) :=
  oInc 6 (1 : Int32) (j6)
noncomputable def wX1_nextOf_32 (k : Int32 → Int32 → Int32 → Int32 → Int32 → Int32 → qM → Option (Int32 × qM)) : qT (Int32 × qM) := fun lo st m => match lo, st with
  | [some (.ref 80), some (.int a1), some (.int a2), some (.int a3), some (.int a4), some (.int a5), some (.int a6), _], [] => k a1 a2 a3 a4 a5 a6 m
  | _, _ => none
noncomputable def wX1_nextOf_6 (k : Int32 → Int32 → Int32 → Int32 → Int32 → Int32 → qM → Option (Int32 × qM)) : qT (Int32 × qM) := fun lo st m => match lo, st with
  | [some (.ref 80), some (.int a1), some (.int a2), some (.int a3), some (.int a4), some (.int a5), some (.int a6), _], [] => k a1 a2 a3 a4 a5 a6 m
  | _, _ => none
set_option maxRecDepth 20000 in
theorem sX1_nextOf_32 {C : qCx} {w : qWp} (h : qOk C w RX1 cX1_nextOf 8 2 155 155) (hm : qMt C (some .int)) (hx : qNx C) {j6 : qT (Int32 × qM)} (k6 : qSnd C w 8 155 (qQf C w 155 155 jI) qfin 155 11 j6) : qSnd C w 8 155 (qQf C w 155 155 jI) qfin 155 66 (tX1_nextOf_32 j6) :=
  cInc (pc := 66) h dX1_nextOf_66 rfl (jGo (pc := 69) h dX1_nextOf_69 rfl (k6))
set_option maxRecDepth 20000 in
theorem lX1_nextOf_32 (k6 : Int32 → Int32 → Int32 → Int32 → Int32 → Int32 → qM → Option (Int32 × qM)) (a1 : Int32) (a2 : Int32) (a3 : Int32) (a4 : Int32) (a5 : Int32) (a6 : Int32) (m : qM) : tX1_nextOf_32 (wX1_nextOf_6 k6) [some (.ref 80), some (.int a1), some (.int a2), some (.int a3), some (.int a4), some (.int a5), some (.int a6), none] [] m = fX1_nextOf_32 k6 a1 a2 a3 a4 a5 a6 m := rfl
theorem bX1_nextOf_32 {C : qCx} {w : qWp} (h : qOk C w RX1 cX1_nextOf 8 2 155 155) (hm : qMt C (some .int)) (hx : qNx C) {k6 : Int32 → Int32 → Int32 → Int32 → Int32 → Int32 → qM → Option (Int32 × qM)} (h6 : qSnd C w 8 155 (qQf C w 155 155 jI) qfin 155 11 (wX1_nextOf_6 k6)) : qSnd C w 8 155 (qQf C w 155 155 jI) qfin 155 66 (wX1_nextOf_32 (fX1_nextOf_32 k6)) :=
  qSnd_of (fun lo st m x hr0 => by
    unfold wX1_nextOf_32 at hr0
    split at hr0
    · exact ⟨_, (qsub_e (qsub_e (qsub_e (qsub_e (qsub_e (qsub_e (qsub_e (qsub_n qsub_nil)))))))), (lX1_nextOf_32 _ _ _ _ _ _ _ _).trans hr0⟩
    · cases hr0) (sX1_nextOf_32 h hm hx h6)
noncomputable def tX1_nextOf_6 (j32 : qT (Int32 × qM)) : qT (Int32 × qM) :=
  oLi 6 (oLa 0 (oGf 80 3 58 (oCi GX4_asks 1 (oCGe (oLi 4 (eI)) (oLa 0 (oLi 6 (oLi 3 (oCi GX1_startOf 3 (oSi 7 (oLa 0 (oGf 80 3 58 (oLi 6 (oCi GX4_familyOf 2 (oLi 1 (oCEq (oLi 7 (oLi 2 (oCLe (j32) (oLi 7 (oLi 5 (oCGe (j32) (oLi 6 (oSi 4 (oLi 7 (oSi 5 (j32))))))))))) (j32))))))))))))))))
set_option maxRecDepth 20000 in
theorem sX1_nextOf_6 {C : qCx} {w : qWp} (h : qOk C w RX1 cX1_nextOf 8 2 155 155) (hm : qMt C (some .int)) (hx : qNx C) {j32 : qT (Int32 × qM)} (k32 : qSnd C w 8 155 (qQf C w 155 155 jI) qfin 155 66 j32) : qSnd C w 8 155 (qQf C w 155 155 jI) qfin 155 11 (tX1_nextOf_6 j32) :=
  cLI (pc := 11) h dX1_nextOf_11 (cLa (pc := 13) h dX1_nextOf_13 rfl (gGf (pc := 14) h dX1_nextOf_14 ff_X1_68_80 (Nat.le_of_ble_eq_true rfl) (Nat.le_of_ble_eq_true rfl) rfl (kCi (pc := 17) h (kd_X1_214 h dX1_nextOf_17) spX4_asks (by decide) (by decide) (by decide) (by decide) (jCGe (pc := 20) h dX1_nextOf_20 rfl (cLI (pc := 72) h dX1_nextOf_72 (zI (pc := 74) h hm (Nat.le_refl _) dX1_nextOf_74)) (cLa (pc := 23) h dX1_nextOf_23 rfl (cLI (pc := 24) h dX1_nextOf_24 (cLi (pc := 26) h dX1_nextOf_26 rfl (kCi (pc := 27) h (kd_X1_220 h dX1_nextOf_27) spX1_startOf (by decide) (by decide) (by decide) (by decide) (cSI (pc := 30) h dX1_nextOf_30 (cLa (pc := 32) h dX1_nextOf_32 rfl (gGf (pc := 33) h dX1_nextOf_33 ff_X1_68_80 (Nat.le_of_ble_eq_true rfl) (Nat.le_of_ble_eq_true rfl) rfl (cLI (pc := 36) h dX1_nextOf_36 (kCi (pc := 38) h (kd_X1_202 h dX1_nextOf_38) spX4_familyOf (by decide) (by decide) (by decide) (by decide) (cLi (pc := 41) h dX1_nextOf_41 rfl (jCNe (pc := 42) h dX1_nextOf_42 rfl (k32) (cLI (pc := 45) h dX1_nextOf_45 (cLi (pc := 47) h dX1_nextOf_47 rfl (jCLe (pc := 48) h dX1_nextOf_48 rfl (k32) (cLI (pc := 51) h dX1_nextOf_51 (cLI (pc := 53) h dX1_nextOf_53 (jCGe (pc := 55) h dX1_nextOf_55 rfl (k32) (cLI (pc := 58) h dX1_nextOf_58 (cSI (pc := 60) h dX1_nextOf_60 (cLI (pc := 62) h dX1_nextOf_62 (cSI (pc := 64) h dX1_nextOf_64 (k32))))))))))))))))))))))))))
set_option maxRecDepth 20000 in
theorem lX1_nextOf_6 (n : Nat) (a1 : Int32) (a2 : Int32) (a3 : Int32) (a4 : Int32) (a5 : Int32) (a6 : Int32) (m : qM) : tX1_nextOf_6 (wX1_nextOf_32 (fX1_nextOf_32 (fX1_nextOf_6 n))) [some (.ref 80), some (.int a1), some (.int a2), some (.int a3), some (.int a4), some (.int a5), some (.int a6), none] [] m = fX1_nextOf_6 (n + 1) a1 a2 a3 a4 a5 a6 m := rfl
theorem bX1_nextOf_6 {C : qCx} {w : qWp} (h : qOk C w RX1 cX1_nextOf 8 2 155 155) (hm : qMt C (some .int)) (hx : qNx C) : ∀ n : Nat, qSnd C w 8 155 (qQf C w 155 155 jI) qfin 155 11 (wX1_nextOf_6 (fX1_nextOf_6 n))
  | 0 => qSnd_of0 (fun lo st m x hr0 => by
    unfold wX1_nextOf_6 at hr0
    split at hr0
    · cases hr0
    · cases hr0)
  | n + 1 => by
    have ih := bX1_nextOf_6 h hm hx n
    exact qSnd_of (fun lo st m x hr0 => by
    unfold wX1_nextOf_6 at hr0
    split at hr0
    · exact ⟨_, (qsub_e (qsub_e (qsub_e (qsub_e (qsub_e (qsub_e (qsub_e (qsub_n qsub_nil)))))))), (lX1_nextOf_6 n _ _ _ _ _ _ _).trans hr0⟩
    · cases hr0) (sX1_nextOf_6 h hm hx (bX1_nextOf_32 h hm hx ih))
noncomputable def tX1_nextOf_0 (j6 : qT (Int32 × qM)) : qT (Int32 × qM) :=
  oC (.int (-1 : Int32)) (oSi 4 (oC (.int (800 : Int32)) (oSi 5 (oC (.int (0 : Int32)) (oSi 6 (j6))))))
set_option maxRecDepth 20000 in
theorem sX1_nextOf_0 {C : qCx} {w : qWp} (h : qOk C w RX1 cX1_nextOf 8 2 155 155) (hm : qMt C (some .int)) (hx : qNx C) {j6 : qT (Int32 × qM)} (k6 : qSnd C w 8 155 (qQf C w 155 155 jI) qfin 155 11 j6) : qSnd C w 8 155 (qQf C w 155 155 jI) qfin 155 0 (tX1_nextOf_0 j6) :=
  cC (pc := 0) h dX1_nextOf_0 rfl (cSI (pc := 1) h dX1_nextOf_1 (cS (pc := 3) h dX1_nextOf_3 rfl (cSI (pc := 6) h dX1_nextOf_6 (cC (pc := 8) h dX1_nextOf_8 rfl (cSI (pc := 9) h dX1_nextOf_9 (k6))))))
set_option maxRecDepth 20000 in
theorem lX1_nextOf_0 (a1 : Int32) (a2 : Int32) (a3 : Int32) (m : qM) : tX1_nextOf_0 (wX1_nextOf_6 (fX1_nextOf_6 FU)) [some (.ref 80), some (.int a1), some (.int a2), some (.int a3), none, none, none, none] [] m = fX1_nextOf_0 a1 a2 a3 m := rfl
noncomputable def GX1_nextOf : qG Int32 := fun av m => match av with
  | [.ref 80, .int a1, .int a2, .int a3] => fX1_nextOf a1 a2 a3 m
  | _ => none
theorem spX1_nextOf : qSpI yX1_nextOf (.code yX1_nextOf cX1_nextOf 8 (some .int)) 2 qfin 155 155 1 GX1_nextOf := by
  intro av m x m' hG
  unfold GX1_nextOf at hG
  split at hG
  · rename_i a1 a2 a3
    rw [fX1_nextOf_d] at hG
    exact ⟨qmeet (J := jI) (r := (x, m')) (av := [.ref 80, .int a1, .int a2, .int a3]) (by decide +kernel) (Nat.le_of_ble_eq_true rfl) (fun C w h hm hx hn => sX1_nextOf_0 h hm hx (bX1_nextOf_6 h hm hx FU)) ((lX1_nextOf_0 _ _ _ _).trans hG) (Nat.le_of_ble_eq_true rfl), Or.inl ⟨80, _, 1, _, _, rfl, by decide, rfl, qCk_1, rfl⟩⟩
  · cases hG
theorem dX9_minuteOf_0 : decode cX9_minuteOf 0 = .ok (.iload_n 1, 1) := by decide +kernel
theorem dX9_minuteOf_1 : decode cX9_minuteOf 1 = .ok (.ifCond .lt 20, 3) := by decide +kernel
theorem dX9_minuteOf_4 : decode cX9_minuteOf 4 = .ok (.iload_n 1, 1) := by decide +kernel
theorem dX9_minuteOf_5 : decode cX9_minuteOf 5 = .ok (.aload_n 0, 1) := by decide +kernel
theorem dX9_minuteOf_6 : decode cX9_minuteOf 6 = .ok (.getfield 27, 3) := by decide +kernel
theorem dX9_minuteOf_9 : decode cX9_minuteOf 9 = .ok (.if_icmp .ge 12, 3) := by decide +kernel
theorem dX9_minuteOf_12 : decode cX9_minuteOf 12 = .ok (.aload_n 0, 1) := by decide +kernel
theorem dX9_minuteOf_13 : decode cX9_minuteOf 13 = .ok (.getfield 15, 3) := by decide +kernel
theorem dX9_minuteOf_16 : decode cX9_minuteOf 16 = .ok (.iload_n 1, 1) := by decide +kernel
theorem dX9_minuteOf_17 : decode cX9_minuteOf 17 = .ok (.iaload, 1) := by decide +kernel
theorem dX9_minuteOf_18 : decode cX9_minuteOf 18 = .ok (.goto 4, 3) := by decide +kernel
theorem dX9_minuteOf_21 : decode cX9_minuteOf 21 = .ok (.iconst (-1), 1) := by decide +kernel
theorem dX9_minuteOf_22 : decode cX9_minuteOf 22 = .ok (.ireturn, 1) := by decide +kernel
noncomputable def tX9_minuteOf_12 : qT (Int32 × qM) :=
  eI
noncomputable def wX9_minuteOf_12 (k : Int32 → qM → Option (Int32 × qM)) : qT (Int32 × qM) := fun lo st m => match lo, st with
  | [_, _], [.int s0] => k s0 m
  | _, _ => none
set_option maxRecDepth 20000 in
theorem sX9_minuteOf_12 {C : qCx} {w : qWp} (h : qOk C w RX9 cX9_minuteOf 2 0 155 155) (hm : qMt C (some .int)) (hx : qNx C) : qSnd C w 2 155 (qQf C w 155 155 jI) qfin 155 22 (tX9_minuteOf_12) :=
  zI (pc := 22) h hm (Nat.le_refl _) dX9_minuteOf_22
set_option maxRecDepth 20000 in
theorem lX9_minuteOf_12 (s0 : Int32) (m : qM) : tX9_minuteOf_12 [none, none] [(.int s0)] m = fX9_minuteOf_12 s0 m := rfl
theorem bX9_minuteOf_12 {C : qCx} {w : qWp} (h : qOk C w RX9 cX9_minuteOf 2 0 155 155) (hm : qMt C (some .int)) (hx : qNx C) : qSnd C w 2 155 (qQf C w 155 155 jI) qfin 155 22 (wX9_minuteOf_12 fX9_minuteOf_12) :=
  qSnd_of (fun lo st m x hr0 => by
    unfold wX9_minuteOf_12 at hr0
    split at hr0
    · exact ⟨_, (qsub_n (qsub_n qsub_nil)), (lX9_minuteOf_12 _ _).trans hr0⟩
    · cases hr0) (sX9_minuteOf_12 h hm hx)
noncomputable def tX9_minuteOf_11 (j12 : qT (Int32 × qM)) : qT (Int32 × qM) :=
  oC (.int (-1 : Int32)) (j12)
noncomputable def wX9_minuteOf_11 (k : qM → Option (Int32 × qM)) : qT (Int32 × qM) := fun lo st m => match lo, st with
  | [_, _], [] => k m
  | _, _ => none
set_option maxRecDepth 20000 in
theorem sX9_minuteOf_11 {C : qCx} {w : qWp} (h : qOk C w RX9 cX9_minuteOf 2 0 155 155) (hm : qMt C (some .int)) (hx : qNx C) {j12 : qT (Int32 × qM)} (k12 : qSnd C w 2 155 (qQf C w 155 155 jI) qfin 155 22 j12) : qSnd C w 2 155 (qQf C w 155 155 jI) qfin 155 21 (tX9_minuteOf_11 j12) :=
  cC (pc := 21) h dX9_minuteOf_21 rfl (k12)
set_option maxRecDepth 20000 in
theorem lX9_minuteOf_11 (m : qM) : tX9_minuteOf_11 (wX9_minuteOf_12 fX9_minuteOf_12) [none, none] [] m = fX9_minuteOf_11 m := rfl
theorem bX9_minuteOf_11 {C : qCx} {w : qWp} (h : qOk C w RX9 cX9_minuteOf 2 0 155 155) (hm : qMt C (some .int)) (hx : qNx C) : qSnd C w 2 155 (qQf C w 155 155 jI) qfin 155 21 (wX9_minuteOf_11 fX9_minuteOf_11) :=
  qSnd_of (fun lo st m x hr0 => by
    unfold wX9_minuteOf_11 at hr0
    split at hr0
    · exact ⟨_, (qsub_n (qsub_n qsub_nil)), (lX9_minuteOf_11 _).trans hr0⟩
    · cases hr0) (sX9_minuteOf_11 h hm hx (bX9_minuteOf_12 h hm hx))
noncomputable def tX9_minuteOf_0 (j11 : qT (Int32 × qM)) (j12 : qT (Int32 × qM)) : qT (Int32 × qM) :=
  oLi 1 (oLt (j11) (oLi 1 (oLa 0 (oGi 74 5 (oCGe (j11) (oLa 0 (oGf 74 1 76 (oLi 1 (oAi 76 80 (j12))))))))))
set_option maxRecDepth 20000 in
theorem sX9_minuteOf_0 {C : qCx} {w : qWp} (h : qOk C w RX9 cX9_minuteOf 2 0 155 155) (hm : qMt C (some .int)) (hx : qNx C) {j11 : qT (Int32 × qM)} {j12 : qT (Int32 × qM)} (k11 : qSnd C w 2 155 (qQf C w 155 155 jI) qfin 155 21 j11) (k12 : qSnd C w 2 155 (qQf C w 155 155 jI) qfin 155 22 j12) : qSnd C w 2 155 (qQf C w 155 155 jI) qfin 155 0 (tX9_minuteOf_0 j11 j12) :=
  cLi (pc := 0) h dX9_minuteOf_0 rfl (jLt (pc := 1) h dX9_minuteOf_1 rfl (k11) (cLi (pc := 4) h dX9_minuteOf_4 rfl (cLa (pc := 5) h dX9_minuteOf_5 rfl (gGi (pc := 6) h dX9_minuteOf_6 ff_X9_27_74 (Nat.le_of_ble_eq_true rfl) (Nat.le_of_ble_eq_true rfl) (jCGe (pc := 9) h dX9_minuteOf_9 rfl (k11) (cLa (pc := 12) h dX9_minuteOf_12 rfl (gGf (pc := 13) h dX9_minuteOf_13 ff_X9_15_74 (Nat.le_of_ble_eq_true rfl) (Nat.le_of_ble_eq_true rfl) rfl (cLi (pc := 16) h dX9_minuteOf_16 rfl (rAi (pc := 17) h dX9_minuteOf_17 rfl (Nat.le_of_ble_eq_true rfl) (Nat.le_of_ble_eq_true rfl) (jGo (pc := 18) h dX9_minuteOf_18 rfl (k12)))))))))))
set_option maxRecDepth 20000 in
theorem lX9_minuteOf_0 (a1 : Int32) (m : qM) : tX9_minuteOf_0 (wX9_minuteOf_11 fX9_minuteOf_11) (wX9_minuteOf_12 fX9_minuteOf_12) [some (.ref 74), some (.int a1)] [] m = fX9_minuteOf_0 a1 m := rfl
noncomputable def GX9_minuteOf : qG Int32 := fun av m => match av with
  | [.ref 74, .int a1] => fX9_minuteOf a1 m
  | _ => none
theorem spX9_minuteOf : qSpI yX9_minuteOf (.code yX9_minuteOf cX9_minuteOf 2 (some .int)) 0 qfin 155 155 1 GX9_minuteOf := by
  intro av m x m' hG
  unfold GX9_minuteOf at hG
  split at hG
  · rename_i a1
    rw [fX9_minuteOf_d] at hG
    exact ⟨qmeet (J := jI) (r := (x, m')) (av := [.ref 74, .int a1]) (by decide +kernel) (Nat.le_of_ble_eq_true rfl) (fun C w h hm hx hn => sX9_minuteOf_0 h hm hx (bX9_minuteOf_11 h hm hx) (bX9_minuteOf_12 h hm hx)) ((lX9_minuteOf_0 _ _).trans hG) (Nat.le_of_ble_eq_true rfl), Or.inl ⟨74, _, 9, _, _, rfl, by decide, rfl, qCk_9, rfl⟩⟩
  · cases hG
theorem im_X9_minuteOf : Jvm.Cond.instanceMethod yX9_minuteOf ∈ qTw := qm5 (List.mem_of_getElem? (i := 90) (by decide +kernel)) (by decide +kernel)
theorem se_X9_minuteOf : Jvm.Cond.selects yX9_minuteOf.cls yX9_minuteOf yX9_minuteOf ∈ qTw := qm5 (List.mem_of_getElem? (i := 91) (by decide +kernel)) (by decide +kernel)
theorem co_X9_minuteOf : Jvm.Cond.code yX9_minuteOf cX9_minuteOf 2 (some .int) ∈ qTw := qm5 (List.mem_of_getElem? (i := 92) (by decide +kernel)) (by decide +kernel)
theorem yk_X9_minuteOf : qYk yX9_minuteOf 1 := ⟨⟨by decide +kernel, by decide +kernel⟩, by decide +kernel⟩
theorem ml_X9_35 : Jvm.Cond.methodLink RX9 35 yX9_minuteOf ∈ qTw := qm5 (List.mem_of_getElem? (i := 89) (by decide +kernel)) (by decide +kernel)
theorem kd_X9_35 {C : qCx} {w : qWp} {cc : ByteArray} {nL dp n0 n1 pc : Nat} (h : qOk C w RX9 cc nL dp n0 n1) (d : decode cc pc = .ok (.invokevirtual 35, 3)) : qCallOk C w nL dp n0 n1 pc 2 1 yX9_minuteOf (.code yX9_minuteOf cX9_minuteOf 2 (some .int)) := kindV h d ml_X9_35 im_X9_minuteOf se_X9_minuteOf in_ParentEve_Tellings co_X9_minuteOf yk_X9_minuteOf (by decide)
theorem dX9_areAllOfTheirMinutes_0 : decode cX9_areAllOfTheirMinutes 0 = .ok (.iload_n 1, 1) := by decide +kernel
theorem dX9_areAllOfTheirMinutes_1 : decode cX9_areAllOfTheirMinutes 1 = .ok (.ifCond .eq 18, 3) := by decide +kernel
theorem dX9_areAllOfTheirMinutes_4 : decode cX9_areAllOfTheirMinutes 4 = .ok (.aload_n 0, 1) := by decide +kernel
theorem dX9_areAllOfTheirMinutes_5 : decode cX9_areAllOfTheirMinutes 5 = .ok (.iload_n 1, 1) := by decide +kernel
theorem dX9_areAllOfTheirMinutes_6 : decode cX9_areAllOfTheirMinutes 6 = .ok (.invokevirtual 35, 3) := by decide +kernel
theorem dX9_areAllOfTheirMinutes_9 : decode cX9_areAllOfTheirMinutes 9 = .ok (.aload_n 0, 1) := by decide +kernel
theorem dX9_areAllOfTheirMinutes_10 : decode cX9_areAllOfTheirMinutes 10 = .ok (.iload_n 1, 1) := by decide +kernel
theorem dX9_areAllOfTheirMinutes_11 : decode cX9_areAllOfTheirMinutes 11 = .ok (.iconst 1, 1) := by decide +kernel
theorem dX9_areAllOfTheirMinutes_12 : decode cX9_areAllOfTheirMinutes 12 = .ok (.isub, 1) := by decide +kernel
theorem dX9_areAllOfTheirMinutes_13 : decode cX9_areAllOfTheirMinutes 13 = .ok (.invokevirtual 35, 3) := by decide +kernel
theorem dX9_areAllOfTheirMinutes_16 : decode cX9_areAllOfTheirMinutes 16 = .ok (.if_icmp .eq 7, 3) := by decide +kernel
theorem dX9_areAllOfTheirMinutes_19 : decode cX9_areAllOfTheirMinutes 19 = .ok (.iconst 1, 1) := by decide +kernel
theorem dX9_areAllOfTheirMinutes_20 : decode cX9_areAllOfTheirMinutes 20 = .ok (.goto 4, 3) := by decide +kernel
theorem dX9_areAllOfTheirMinutes_23 : decode cX9_areAllOfTheirMinutes 23 = .ok (.iconst 0, 1) := by decide +kernel
theorem dX9_areAllOfTheirMinutes_24 : decode cX9_areAllOfTheirMinutes 24 = .ok (.ireturn, 1) := by decide +kernel
noncomputable def tX9_areAllOfTheirMinutes_14 : qT (Int32 × qM) :=
  eZ
noncomputable def wX9_areAllOfTheirMinutes_14 (k : Int32 → qM → Option (Int32 × qM)) : qT (Int32 × qM) := fun lo st m => match lo, st with
  | [_, _], [.int s0] => k s0 m
  | _, _ => none
set_option maxRecDepth 20000 in
theorem sX9_areAllOfTheirMinutes_14 {C : qCx} {w : qWp} (h : qOk C w RX9 cX9_areAllOfTheirMinutes 2 1 155 155) (hm : qMt C (some .boolean)) (hx : qNx C) : qSnd C w 2 155 (qQf C w 155 155 jI) qfin 155 24 (tX9_areAllOfTheirMinutes_14) :=
  zZ (pc := 24) h hm (Nat.le_refl _) dX9_areAllOfTheirMinutes_24
set_option maxRecDepth 20000 in
theorem lX9_areAllOfTheirMinutes_14 (s0 : Int32) (m : qM) : tX9_areAllOfTheirMinutes_14 [none, none] [(.int s0)] m = fX9_areAllOfTheirMinutes_14 s0 m := rfl
theorem bX9_areAllOfTheirMinutes_14 {C : qCx} {w : qWp} (h : qOk C w RX9 cX9_areAllOfTheirMinutes 2 1 155 155) (hm : qMt C (some .boolean)) (hx : qNx C) : qSnd C w 2 155 (qQf C w 155 155 jI) qfin 155 24 (wX9_areAllOfTheirMinutes_14 fX9_areAllOfTheirMinutes_14) :=
  qSnd_of (fun lo st m x hr0 => by
    unfold wX9_areAllOfTheirMinutes_14 at hr0
    split at hr0
    · exact ⟨_, (qsub_n (qsub_n qsub_nil)), (lX9_areAllOfTheirMinutes_14 _ _).trans hr0⟩
    · cases hr0) (sX9_areAllOfTheirMinutes_14 h hm hx)
noncomputable def tX9_areAllOfTheirMinutes_11 (j14 : qT (Int32 × qM)) : qT (Int32 × qM) :=
  oC (.int (1 : Int32)) (j14)
noncomputable def wX9_areAllOfTheirMinutes_11 (k : qM → Option (Int32 × qM)) : qT (Int32 × qM) := fun lo st m => match lo, st with
  | [_, _], [] => k m
  | _, _ => none
set_option maxRecDepth 20000 in
theorem sX9_areAllOfTheirMinutes_11 {C : qCx} {w : qWp} (h : qOk C w RX9 cX9_areAllOfTheirMinutes 2 1 155 155) (hm : qMt C (some .boolean)) (hx : qNx C) {j14 : qT (Int32 × qM)} (k14 : qSnd C w 2 155 (qQf C w 155 155 jI) qfin 155 24 j14) : qSnd C w 2 155 (qQf C w 155 155 jI) qfin 155 19 (tX9_areAllOfTheirMinutes_11 j14) :=
  cC (pc := 19) h dX9_areAllOfTheirMinutes_19 rfl (jGo (pc := 20) h dX9_areAllOfTheirMinutes_20 rfl (k14))
set_option maxRecDepth 20000 in
theorem lX9_areAllOfTheirMinutes_11 (m : qM) : tX9_areAllOfTheirMinutes_11 (wX9_areAllOfTheirMinutes_14 fX9_areAllOfTheirMinutes_14) [none, none] [] m = fX9_areAllOfTheirMinutes_11 m := rfl
theorem bX9_areAllOfTheirMinutes_11 {C : qCx} {w : qWp} (h : qOk C w RX9 cX9_areAllOfTheirMinutes 2 1 155 155) (hm : qMt C (some .boolean)) (hx : qNx C) : qSnd C w 2 155 (qQf C w 155 155 jI) qfin 155 19 (wX9_areAllOfTheirMinutes_11 fX9_areAllOfTheirMinutes_11) :=
  qSnd_of (fun lo st m x hr0 => by
    unfold wX9_areAllOfTheirMinutes_11 at hr0
    split at hr0
    · exact ⟨_, (qsub_n (qsub_n qsub_nil)), (lX9_areAllOfTheirMinutes_11 _).trans hr0⟩
    · cases hr0) (sX9_areAllOfTheirMinutes_11 h hm hx (bX9_areAllOfTheirMinutes_14 h hm hx))
noncomputable def tX9_areAllOfTheirMinutes_0 (j11 : qT (Int32 × qM)) (j14 : qT (Int32 × qM)) : qT (Int32 × qM) :=
  oLi 1 (oEq (j11) (oLa 0 (oLi 1 (oCi GX9_minuteOf 2 (oLa 0 (oLi 1 (oC (.int (1 : Int32)) (o2 (· - ·) (oCi GX9_minuteOf 2 (oCEq (oC (.int (0 : Int32)) (j14)) (j11)))))))))))
set_option maxRecDepth 20000 in
theorem sX9_areAllOfTheirMinutes_0 {C : qCx} {w : qWp} (h : qOk C w RX9 cX9_areAllOfTheirMinutes 2 1 155 155) (hm : qMt C (some .boolean)) (hx : qNx C) {j11 : qT (Int32 × qM)} {j14 : qT (Int32 × qM)} (k11 : qSnd C w 2 155 (qQf C w 155 155 jI) qfin 155 19 j11) (k14 : qSnd C w 2 155 (qQf C w 155 155 jI) qfin 155 24 j14) : qSnd C w 2 155 (qQf C w 155 155 jI) qfin 155 0 (tX9_areAllOfTheirMinutes_0 j11 j14) :=
  cLi (pc := 0) h dX9_areAllOfTheirMinutes_0 rfl (jEq (pc := 1) h dX9_areAllOfTheirMinutes_1 rfl (k11) (cLa (pc := 4) h dX9_areAllOfTheirMinutes_4 rfl (cLi (pc := 5) h dX9_areAllOfTheirMinutes_5 rfl (kCi (pc := 6) h (kd_X9_35 h dX9_areAllOfTheirMinutes_6) spX9_minuteOf (by decide) (by decide) (by decide) (by decide) (cLa (pc := 9) h dX9_areAllOfTheirMinutes_9 rfl (cLi (pc := 10) h dX9_areAllOfTheirMinutes_10 rfl (cC (pc := 11) h dX9_areAllOfTheirMinutes_11 rfl (aSub (pc := 12) h dX9_areAllOfTheirMinutes_12 (kCi (pc := 13) h (kd_X9_35 h dX9_areAllOfTheirMinutes_13) spX9_minuteOf (by decide) (by decide) (by decide) (by decide) (jCEq (pc := 16) h dX9_areAllOfTheirMinutes_16 rfl (cC (pc := 23) h dX9_areAllOfTheirMinutes_23 rfl (k14)) (k11)))))))))))
set_option maxRecDepth 20000 in
theorem lX9_areAllOfTheirMinutes_0 (a1 : Int32) (m : qM) : tX9_areAllOfTheirMinutes_0 (wX9_areAllOfTheirMinutes_11 fX9_areAllOfTheirMinutes_11) (wX9_areAllOfTheirMinutes_14 fX9_areAllOfTheirMinutes_14) [some (.ref 74), some (.int a1)] [] m = fX9_areAllOfTheirMinutes_0 a1 m := rfl
noncomputable def GX9_areAllOfTheirMinutes : qG Int32 := fun av m => match av with
  | [.ref 74, .int a1] => fX9_areAllOfTheirMinutes a1 m
  | _ => none
theorem spX9_areAllOfTheirMinutes : qSpI yX9_areAllOfTheirMinutes (.code yX9_areAllOfTheirMinutes cX9_areAllOfTheirMinutes 2 (some .boolean)) 1 qfin 155 155 1 GX9_areAllOfTheirMinutes := by
  intro av m x m' hG
  unfold GX9_areAllOfTheirMinutes at hG
  split at hG
  · rename_i a1
    rw [fX9_areAllOfTheirMinutes_d] at hG
    exact ⟨qmeet (J := jI) (r := (x, m')) (av := [.ref 74, .int a1]) (by decide +kernel) (Nat.le_of_ble_eq_true rfl) (fun C w h hm hx hn => sX9_areAllOfTheirMinutes_0 h hm hx (bX9_areAllOfTheirMinutes_11 h hm hx) (bX9_areAllOfTheirMinutes_14 h hm hx)) ((lX9_areAllOfTheirMinutes_0 _ _).trans hG) (Nat.le_of_ble_eq_true rfl), Or.inl ⟨74, _, 9, _, _, rfl, by decide, rfl, qCk_9, rfl⟩⟩
  · cases hG
theorem im_X1_nextOf : Jvm.Cond.instanceMethod yX1_nextOf ∈ qTw := qm6 (List.mem_of_getElem? (i := 15) (by decide +kernel)) (by decide +kernel)
theorem se_X1_nextOf : Jvm.Cond.selects yX1_nextOf.cls yX1_nextOf yX1_nextOf ∈ qTw := qm6 (List.mem_of_getElem? (i := 16) (by decide +kernel)) (by decide +kernel)
theorem co_X1_nextOf : Jvm.Cond.code yX1_nextOf cX1_nextOf 8 (some .int) ∈ qTw := qm6 (List.mem_of_getElem? (i := 17) (by decide +kernel)) (by decide +kernel)
theorem yk_X1_nextOf : qYk yX1_nextOf 3 := ⟨⟨by decide +kernel, by decide +kernel⟩, by decide +kernel⟩
theorem ml_X1_245 : Jvm.Cond.methodLink RX1 245 yX1_nextOf ∈ qTw := qm6 (List.mem_of_getElem? (i := 36) (by decide +kernel)) (by decide +kernel)
theorem kd_X1_245 {C : qCx} {w : qWp} {cc : ByteArray} {nL dp n0 n1 pc : Nat} (h : qOk C w RX1 cc nL dp n0 n1) (d : decode cc pc = .ok (.invokevirtual 245, 3)) : qCallOk C w nL dp n0 n1 pc 4 1 yX1_nextOf (.code yX1_nextOf cX1_nextOf 8 (some .int)) := kindV h d ml_X1_245 im_X1_nextOf se_X1_nextOf in_ParentEve_Evening co_X1_nextOf yk_X1_nextOf (by decide)
theorem dX1_isMessage_0 : decode cX1_isMessage 0 = .ok (.aload_n 0, 1) := by decide +kernel
theorem dX1_isMessage_1 : decode cX1_isMessage 1 = .ok (.iload_n 1, 1) := by decide +kernel
theorem dX1_isMessage_2 : decode cX1_isMessage 2 = .ok (.iload_n 2, 1) := by decide +kernel
theorem dX1_isMessage_3 : decode cX1_isMessage 3 = .ok (.iload_n 3, 1) := by decide +kernel
theorem dX1_isMessage_4 : decode cX1_isMessage 4 = .ok (.invokevirtual 245, 3) := by decide +kernel
theorem dX1_isMessage_7 : decode cX1_isMessage 7 = .ok (.istore 5, 2) := by decide +kernel
theorem dX1_isMessage_9 : decode cX1_isMessage 9 = .ok (.aload_n 0, 1) := by decide +kernel
theorem dX1_isMessage_10 : decode cX1_isMessage 10 = .ok (.iload_n 1, 1) := by decide +kernel
theorem dX1_isMessage_11 : decode cX1_isMessage 11 = .ok (.iload_n 2, 1) := by decide +kernel
theorem dX1_isMessage_12 : decode cX1_isMessage 12 = .ok (.iload 4, 2) := by decide +kernel
theorem dX1_isMessage_14 : decode cX1_isMessage 14 = .ok (.invokevirtual 245, 3) := by decide +kernel
theorem dX1_isMessage_17 : decode cX1_isMessage 17 = .ok (.istore 6, 2) := by decide +kernel
theorem dX1_isMessage_19 : decode cX1_isMessage 19 = .ok (.iload 5, 2) := by decide +kernel
theorem dX1_isMessage_21 : decode cX1_isMessage 21 = .ok (.iload 6, 2) := by decide +kernel
theorem dX1_isMessage_23 : decode cX1_isMessage 23 = .ok (.if_icmp .eq 5, 3) := by decide +kernel
theorem dX1_isMessage_26 : decode cX1_isMessage 26 = .ok (.iconst 1, 1) := by decide +kernel
theorem dX1_isMessage_27 : decode cX1_isMessage 27 = .ok (.ireturn, 1) := by decide +kernel
theorem dX1_isMessage_28 : decode cX1_isMessage 28 = .ok (.iload 6, 2) := by decide +kernel
theorem dX1_isMessage_30 : decode cX1_isMessage 30 = .ok (.iconst (-1), 1) := by decide +kernel
theorem dX1_isMessage_31 : decode cX1_isMessage 31 = .ok (.if_icmp .eq 29, 3) := by decide +kernel
theorem dX1_isMessage_34 : decode cX1_isMessage 34 = .ok (.aload_n 0, 1) := by decide +kernel
theorem dX1_isMessage_35 : decode cX1_isMessage 35 = .ok (.iload 5, 2) := by decide +kernel
theorem dX1_isMessage_37 : decode cX1_isMessage 37 = .ok (.iload_n 3, 1) := by decide +kernel
theorem dX1_isMessage_38 : decode cX1_isMessage 38 = .ok (.invokevirtual 220, 3) := by decide +kernel
theorem dX1_isMessage_41 : decode cX1_isMessage 41 = .ok (.aload_n 0, 1) := by decide +kernel
theorem dX1_isMessage_42 : decode cX1_isMessage 42 = .ok (.iload 6, 2) := by decide +kernel
theorem dX1_isMessage_44 : decode cX1_isMessage 44 = .ok (.iload 4, 2) := by decide +kernel
theorem dX1_isMessage_46 : decode cX1_isMessage 46 = .ok (.invokevirtual 220, 3) := by decide +kernel
theorem dX1_isMessage_49 : decode cX1_isMessage 49 = .ok (.invokestatic 229, 3) := by decide +kernel
theorem dX1_isMessage_52 : decode cX1_isMessage 52 = .ok (.iconst 5, 1) := by decide +kernel
theorem dX1_isMessage_53 : decode cX1_isMessage 53 = .ok (.if_icmp .lt 7, 3) := by decide +kernel
theorem dX1_isMessage_56 : decode cX1_isMessage 56 = .ok (.iconst 1, 1) := by decide +kernel
theorem dX1_isMessage_57 : decode cX1_isMessage 57 = .ok (.goto 4, 3) := by decide +kernel
theorem dX1_isMessage_60 : decode cX1_isMessage 60 = .ok (.iconst 0, 1) := by decide +kernel
theorem dX1_isMessage_61 : decode cX1_isMessage 61 = .ok (.ireturn, 1) := by decide +kernel
noncomputable def tX1_isMessage_34 : qT (Int32 × qM) :=
  eZ
noncomputable def wX1_isMessage_34 (k : Int32 → qM → Option (Int32 × qM)) : qT (Int32 × qM) := fun lo st m => match lo, st with
  | [_, _, _, _, _, _, _], [.int s0] => k s0 m
  | _, _ => none
set_option maxRecDepth 20000 in
theorem sX1_isMessage_34 {C : qCx} {w : qWp} (h : qOk C w RX1 cX1_isMessage 7 3 155 155) (hm : qMt C (some .boolean)) (hx : qNx C) : qSnd C w 7 155 (qQf C w 155 155 jI) qfin 155 61 (tX1_isMessage_34) :=
  zZ (pc := 61) h hm (Nat.le_refl _) dX1_isMessage_61
set_option maxRecDepth 20000 in
theorem lX1_isMessage_34 (s0 : Int32) (m : qM) : tX1_isMessage_34 [none, none, none, none, none, none, none] [(.int s0)] m = fX1_isMessage_34 s0 m := rfl
theorem bX1_isMessage_34 {C : qCx} {w : qWp} (h : qOk C w RX1 cX1_isMessage 7 3 155 155) (hm : qMt C (some .boolean)) (hx : qNx C) : qSnd C w 7 155 (qQf C w 155 155 jI) qfin 155 61 (wX1_isMessage_34 fX1_isMessage_34) :=
  qSnd_of (fun lo st m x hr0 => by
    unfold wX1_isMessage_34 at hr0
    split at hr0
    · exact ⟨_, (qsub_n (qsub_n (qsub_n (qsub_n (qsub_n (qsub_n (qsub_n qsub_nil))))))), (lX1_isMessage_34 _ _).trans hr0⟩
    · cases hr0) (sX1_isMessage_34 h hm hx)
noncomputable def tX1_isMessage_33 (j34 : qT (Int32 × qM)) : qT (Int32 × qM) :=
  oC (.int (0 : Int32)) (j34)
noncomputable def wX1_isMessage_33 (k : qM → Option (Int32 × qM)) : qT (Int32 × qM) := fun lo st m => match lo, st with
  | [_, _, _, _, _, _, _], [] => k m
  | _, _ => none
set_option maxRecDepth 20000 in
theorem sX1_isMessage_33 {C : qCx} {w : qWp} (h : qOk C w RX1 cX1_isMessage 7 3 155 155) (hm : qMt C (some .boolean)) (hx : qNx C) {j34 : qT (Int32 × qM)} (k34 : qSnd C w 7 155 (qQf C w 155 155 jI) qfin 155 61 j34) : qSnd C w 7 155 (qQf C w 155 155 jI) qfin 155 60 (tX1_isMessage_33 j34) :=
  cC (pc := 60) h dX1_isMessage_60 rfl (k34)
set_option maxRecDepth 20000 in
theorem lX1_isMessage_33 (m : qM) : tX1_isMessage_33 (wX1_isMessage_34 fX1_isMessage_34) [none, none, none, none, none, none, none] [] m = fX1_isMessage_33 m := rfl
theorem bX1_isMessage_33 {C : qCx} {w : qWp} (h : qOk C w RX1 cX1_isMessage 7 3 155 155) (hm : qMt C (some .boolean)) (hx : qNx C) : qSnd C w 7 155 (qQf C w 155 155 jI) qfin 155 60 (wX1_isMessage_33 fX1_isMessage_33) :=
  qSnd_of (fun lo st m x hr0 => by
    unfold wX1_isMessage_33 at hr0
    split at hr0
    · exact ⟨_, (qsub_n (qsub_n (qsub_n (qsub_n (qsub_n (qsub_n (qsub_n qsub_nil))))))), (lX1_isMessage_33 _).trans hr0⟩
    · cases hr0) (sX1_isMessage_33 h hm hx (bX1_isMessage_34 h hm hx))
noncomputable def tX1_isMessage_0 (j33 : qT (Int32 × qM)) (j34 : qT (Int32 × qM)) : qT (Int32 × qM) :=
  oLa 0 (oLi 1 (oLi 2 (oLi 3 (oCi GX1_nextOf 4 (oSi 5 (oLa 0 (oLi 1 (oLi 2 (oLi 4 (oCi GX1_nextOf 4 (oSi 6 (oLi 5 (oLi 6 (oCEq (oLi 6 (oC (.int (-1 : Int32)) (oCEq (j33) (oLa 0 (oLi 5 (oLi 3 (oCi GX1_startOf 3 (oLa 0 (oLi 6 (oLi 4 (oCi GX1_startOf 3 (oCi GX1_howFar 2 (oC (.int (5 : Int32)) (oCLt (j33) (oC (.int (1 : Int32)) (j34)))))))))))))))) (oC (.int (1 : Int32)) (eZ))))))))))))))))
set_option maxRecDepth 20000 in
theorem sX1_isMessage_0 {C : qCx} {w : qWp} (h : qOk C w RX1 cX1_isMessage 7 3 155 155) (hm : qMt C (some .boolean)) (hx : qNx C) {j33 : qT (Int32 × qM)} {j34 : qT (Int32 × qM)} (k33 : qSnd C w 7 155 (qQf C w 155 155 jI) qfin 155 60 j33) (k34 : qSnd C w 7 155 (qQf C w 155 155 jI) qfin 155 61 j34) : qSnd C w 7 155 (qQf C w 155 155 jI) qfin 155 0 (tX1_isMessage_0 j33 j34) :=
  cLa (pc := 0) h dX1_isMessage_0 rfl (cLi (pc := 1) h dX1_isMessage_1 rfl (cLi (pc := 2) h dX1_isMessage_2 rfl (cLi (pc := 3) h dX1_isMessage_3 rfl (kCi (pc := 4) h (kd_X1_245 h dX1_isMessage_4) spX1_nextOf (by decide) (by decide) (by decide) (by decide) (cSI (pc := 7) h dX1_isMessage_7 (cLa (pc := 9) h dX1_isMessage_9 rfl (cLi (pc := 10) h dX1_isMessage_10 rfl (cLi (pc := 11) h dX1_isMessage_11 rfl (cLI (pc := 12) h dX1_isMessage_12 (kCi (pc := 14) h (kd_X1_245 h dX1_isMessage_14) spX1_nextOf (by decide) (by decide) (by decide) (by decide) (cSI (pc := 17) h dX1_isMessage_17 (cLI (pc := 19) h dX1_isMessage_19 (cLI (pc := 21) h dX1_isMessage_21 (jCEq (pc := 23) h dX1_isMessage_23 rfl (cLI (pc := 28) h dX1_isMessage_28 (cC (pc := 30) h dX1_isMessage_30 rfl (jCEq (pc := 31) h dX1_isMessage_31 rfl (k33) (cLa (pc := 34) h dX1_isMessage_34 rfl (cLI (pc := 35) h dX1_isMessage_35 (cLi (pc := 37) h dX1_isMessage_37 rfl (kCi (pc := 38) h (kd_X1_220 h dX1_isMessage_38) spX1_startOf (by decide) (by decide) (by decide) (by decide) (cLa (pc := 41) h dX1_isMessage_41 rfl (cLI (pc := 42) h dX1_isMessage_42 (cLI (pc := 44) h dX1_isMessage_44 (kCi (pc := 46) h (kd_X1_220 h dX1_isMessage_46) spX1_startOf (by decide) (by decide) (by decide) (by decide) (kCi (pc := 49) h (kd_X1_229 h dX1_isMessage_49) spX1_howFar (by decide) (by decide) (by decide) (by decide) (cC (pc := 52) h dX1_isMessage_52 rfl (jCLt (pc := 53) h dX1_isMessage_53 rfl (k33) (cC (pc := 56) h dX1_isMessage_56 rfl (jGo (pc := 57) h dX1_isMessage_57 rfl (k34))))))))))))))))) (cC (pc := 26) h dX1_isMessage_26 rfl (zZ (pc := 27) h hm (Nat.le_refl _) dX1_isMessage_27))))))))))))))))
set_option maxRecDepth 20000 in
theorem lX1_isMessage_0 (a1 : Int32) (a2 : Int32) (a3 : Int32) (a4 : Int32) (m : qM) : tX1_isMessage_0 (wX1_isMessage_33 fX1_isMessage_33) (wX1_isMessage_34 fX1_isMessage_34) [some (.ref 80), some (.int a1), some (.int a2), some (.int a3), some (.int a4), none, none] [] m = fX1_isMessage_0 a1 a2 a3 a4 m := rfl
noncomputable def GX1_isMessage : qG Int32 := fun av m => match av with
  | [.ref 80, .int a1, .int a2, .int a3, .int a4] => fX1_isMessage a1 a2 a3 a4 m
  | _ => none
theorem spX1_isMessage : qSpI yX1_isMessage (.code yX1_isMessage cX1_isMessage 7 (some .boolean)) 3 qfin 155 155 1 GX1_isMessage := by
  intro av m x m' hG
  unfold GX1_isMessage at hG
  split at hG
  · rename_i a1 a2 a3 a4
    rw [fX1_isMessage_d] at hG
    exact ⟨qmeet (J := jI) (r := (x, m')) (av := [.ref 80, .int a1, .int a2, .int a3, .int a4]) (by decide +kernel) (Nat.le_of_ble_eq_true rfl) (fun C w h hm hx hn => sX1_isMessage_0 h hm hx (bX1_isMessage_33 h hm hx) (bX1_isMessage_34 h hm hx)) ((lX1_isMessage_0 _ _ _ _ _).trans hG) (Nat.le_of_ble_eq_true rfl), Or.inl ⟨80, _, 1, _, _, rfl, by decide, rfl, qCk_1, rfl⟩⟩
  · cases hG

