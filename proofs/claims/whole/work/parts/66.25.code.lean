/-! methods (by program): X1_isHere, X1_gatherFacts, X5_holds, X5_lineThatHolds, X10_usualOver, X1_fullMinutes, X1_meet, X1_drop, X1_actPlainly, X5_actOf, X5_actNumberOf, X1_meetIfHere, X1_meetOneBehind -/
theorem im_X4_isAsk : Jvm.Cond.instanceMethod yX4_isAsk ∈ qTw := qm4 (List.mem_of_getElem? (i := 51) (by decide +kernel)) (by decide +kernel)
theorem se_X4_isAsk : Jvm.Cond.selects yX4_isAsk.cls yX4_isAsk yX4_isAsk ∈ qTw := qm4 (List.mem_of_getElem? (i := 52) (by decide +kernel)) (by decide +kernel)
theorem co_X4_isAsk : Jvm.Cond.code yX4_isAsk cX4_isAsk 2 (some .boolean) ∈ qTw := qm4 (List.mem_of_getElem? (i := 53) (by decide +kernel)) (by decide +kernel)
theorem yk_X4_isAsk : qYk yX4_isAsk 1 := ⟨⟨by decide +kernel, by decide +kernel⟩, by decide +kernel⟩
theorem ml_X1_199 : Jvm.Cond.methodLink RX1 199 yX4_isAsk ∈ qTw := qm5 (List.mem_of_getElem? (i := 166) (by decide +kernel)) (by decide +kernel)
theorem kd_X1_199 {C : qCx} {w : qWp} {cc : ByteArray} {nL dp n0 n1 pc : Nat} (h : qOk C w RX1 cc nL dp n0 n1) (d : decode cc pc = .ok (.invokevirtual 199, 3)) : qCallOk C w nL dp n0 n1 pc 2 1 yX4_isAsk (.code yX4_isAsk cX4_isAsk 2 (some .boolean)) := kindV h d ml_X1_199 im_X4_isAsk se_X4_isAsk in_ParentEve_Plan co_X4_isAsk yk_X4_isAsk (by decide)
theorem ml_X1_202 : Jvm.Cond.methodLink RX1 202 yX4_familyOf ∈ qTw := qm5 (List.mem_of_getElem? (i := 167) (by decide +kernel)) (by decide +kernel)
theorem kd_X1_202 {C : qCx} {w : qWp} {cc : ByteArray} {nL dp n0 n1 pc : Nat} (h : qOk C w RX1 cc nL dp n0 n1) (d : decode cc pc = .ok (.invokevirtual 202, 3)) : qCallOk C w nL dp n0 n1 pc 2 1 yX4_familyOf (.code yX4_familyOf cX4_familyOf 2 (some .int)) := kindV h d ml_X1_202 im_X4_familyOf se_X4_familyOf in_ParentEve_Plan co_X4_familyOf yk_X4_familyOf (by decide)
theorem ml_X1_205 : Jvm.Cond.methodLink RX1 205 yX3_tongueOf ∈ qTw := qm5 (List.mem_of_getElem? (i := 168) (by decide +kernel)) (by decide +kernel)
theorem kd_X1_205 {C : qCx} {w : qWp} {cc : ByteArray} {nL dp n0 n1 pc : Nat} (h : qOk C w RX1 cc nL dp n0 n1) (d : decode cc pc = .ok (.invokevirtual 205, 3)) : qCallOk C w nL dp n0 n1 pc 2 1 yX3_tongueOf (.code yX3_tongueOf cX3_tongueOf 2 (some .int)) := kindV h d ml_X1_205 im_X3_tongueOf se_X3_tongueOf in_ParentEve_People co_X3_tongueOf yk_X3_tongueOf (by decide)
theorem im_X4_teacherOf : Jvm.Cond.instanceMethod yX4_teacherOf ∈ qTw := qm5 (List.mem_of_getElem? (i := 24) (by decide +kernel)) (by decide +kernel)
theorem se_X4_teacherOf : Jvm.Cond.selects yX4_teacherOf.cls yX4_teacherOf yX4_teacherOf ∈ qTw := qm5 (List.mem_of_getElem? (i := 25) (by decide +kernel)) (by decide +kernel)
theorem co_X4_teacherOf : Jvm.Cond.code yX4_teacherOf cX4_teacherOf 2 (some .int) ∈ qTw := qm5 (List.mem_of_getElem? (i := 26) (by decide +kernel)) (by decide +kernel)
theorem yk_X4_teacherOf : qYk yX4_teacherOf 1 := ⟨⟨by decide +kernel, by decide +kernel⟩, by decide +kernel⟩
theorem ml_X1_159 : Jvm.Cond.methodLink RX1 159 yX4_teacherOf ∈ qTw := qm5 (List.mem_of_getElem? (i := 160) (by decide +kernel)) (by decide +kernel)
theorem kd_X1_159 {C : qCx} {w : qWp} {cc : ByteArray} {nL dp n0 n1 pc : Nat} (h : qOk C w RX1 cc nL dp n0 n1) (d : decode cc pc = .ok (.invokevirtual 159, 3)) : qCallOk C w nL dp n0 n1 pc 2 1 yX4_teacherOf (.code yX4_teacherOf cX4_teacherOf 2 (some .int)) := kindV h d ml_X1_159 im_X4_teacherOf se_X4_teacherOf in_ParentEve_Plan co_X4_teacherOf yk_X4_teacherOf (by decide)
theorem im_X3_walkBetween : Jvm.Cond.instanceMethod yX3_walkBetween ∈ qTw := qm4 (List.mem_of_getElem? (i := 27) (by decide +kernel)) (by decide +kernel)
theorem se_X3_walkBetween : Jvm.Cond.selects yX3_walkBetween.cls yX3_walkBetween yX3_walkBetween ∈ qTw := qm4 (List.mem_of_getElem? (i := 28) (by decide +kernel)) (by decide +kernel)
theorem co_X3_walkBetween : Jvm.Cond.code yX3_walkBetween cX3_walkBetween 3 (some .int) ∈ qTw := qm4 (List.mem_of_getElem? (i := 29) (by decide +kernel)) (by decide +kernel)
theorem yk_X3_walkBetween : qYk yX3_walkBetween 2 := ⟨⟨by decide +kernel, by decide +kernel⟩, by decide +kernel⟩
theorem ml_X1_208 : Jvm.Cond.methodLink RX1 208 yX3_walkBetween ∈ qTw := qm5 (List.mem_of_getElem? (i := 169) (by decide +kernel)) (by decide +kernel)
theorem kd_X1_208 {C : qCx} {w : qWp} {cc : ByteArray} {nL dp n0 n1 pc : Nat} (h : qOk C w RX1 cc nL dp n0 n1) (d : decode cc pc = .ok (.invokevirtual 208, 3)) : qCallOk C w nL dp n0 n1 pc 3 1 yX3_walkBetween (.code yX3_walkBetween cX3_walkBetween 3 (some .int)) := kindV h d ml_X1_208 im_X3_walkBetween se_X3_walkBetween in_ParentEve_People co_X3_walkBetween yk_X3_walkBetween (by decide)
theorem dX1_isHere_0 : decode cX1_isHere 0 = .ok (.aload_n 0, 1) := by decide +kernel
theorem dX1_isHere_1 : decode cX1_isHere 1 = .ok (.getfield 68, 3) := by decide +kernel
theorem dX1_isHere_4 : decode cX1_isHere 4 = .ok (.iload_n 1, 1) := by decide +kernel
theorem dX1_isHere_5 : decode cX1_isHere 5 = .ok (.invokevirtual 199, 3) := by decide +kernel
theorem dX1_isHere_8 : decode cX1_isHere 8 = .ok (.ifCond .ne 5, 3) := by decide +kernel
theorem dX1_isHere_11 : decode cX1_isHere 11 = .ok (.iconst 0, 1) := by decide +kernel
theorem dX1_isHere_12 : decode cX1_isHere 12 = .ok (.ireturn, 1) := by decide +kernel
theorem dX1_isHere_13 : decode cX1_isHere 13 = .ok (.aload_n 0, 1) := by decide +kernel
theorem dX1_isHere_14 : decode cX1_isHere 14 = .ok (.getfield 68, 3) := by decide +kernel
theorem dX1_isHere_17 : decode cX1_isHere 17 = .ok (.iload_n 1, 1) := by decide +kernel
theorem dX1_isHere_18 : decode cX1_isHere 18 = .ok (.invokevirtual 202, 3) := by decide +kernel
theorem dX1_isHere_21 : decode cX1_isHere 21 = .ok (.istore_n 3, 1) := by decide +kernel
theorem dX1_isHere_22 : decode cX1_isHere 22 = .ok (.aload_n 0, 1) := by decide +kernel
theorem dX1_isHere_23 : decode cX1_isHere 23 = .ok (.getfield 50, 3) := by decide +kernel
theorem dX1_isHere_26 : decode cX1_isHere 26 = .ok (.iload_n 1, 1) := by decide +kernel
theorem dX1_isHere_27 : decode cX1_isHere 27 = .ok (.iaload, 1) := by decide +kernel
theorem dX1_isHere_28 : decode cX1_isHere 28 = .ok (.ifCond .ne 40, 3) := by decide +kernel
theorem dX1_isHere_31 : decode cX1_isHere 31 = .ok (.iload_n 2, 1) := by decide +kernel
theorem dX1_isHere_32 : decode cX1_isHere 32 = .ok (.aload_n 0, 1) := by decide +kernel
theorem dX1_isHere_33 : decode cX1_isHere 33 = .ok (.getfield 53, 3) := by decide +kernel
theorem dX1_isHere_36 : decode cX1_isHere 36 = .ok (.iload_n 3, 1) := by decide +kernel
theorem dX1_isHere_37 : decode cX1_isHere 37 = .ok (.iaload, 1) := by decide +kernel
theorem dX1_isHere_38 : decode cX1_isHere 38 = .ok (.if_icmp .lt 30, 3) := by decide +kernel
theorem dX1_isHere_41 : decode cX1_isHere 41 = .ok (.iload_n 2, 1) := by decide +kernel
theorem dX1_isHere_42 : decode cX1_isHere 42 = .ok (.aload_n 0, 1) := by decide +kernel
theorem dX1_isHere_43 : decode cX1_isHere 43 = .ok (.getfield 38, 3) := by decide +kernel
theorem dX1_isHere_46 : decode cX1_isHere 46 = .ok (.iload_n 3, 1) := by decide +kernel
theorem dX1_isHere_47 : decode cX1_isHere 47 = .ok (.iaload, 1) := by decide +kernel
theorem dX1_isHere_48 : decode cX1_isHere 48 = .ok (.if_icmp .lt 20, 3) := by decide +kernel
theorem dX1_isHere_51 : decode cX1_isHere 51 = .ok (.iload_n 2, 1) := by decide +kernel
theorem dX1_isHere_52 : decode cX1_isHere 52 = .ok (.aload_n 0, 1) := by decide +kernel
theorem dX1_isHere_53 : decode cX1_isHere 53 = .ok (.getfield 44, 3) := by decide +kernel
theorem dX1_isHere_56 : decode cX1_isHere 56 = .ok (.aload_n 0, 1) := by decide +kernel
theorem dX1_isHere_57 : decode cX1_isHere 57 = .ok (.getfield 64, 3) := by decide +kernel
theorem dX1_isHere_60 : decode cX1_isHere 60 = .ok (.iload_n 3, 1) := by decide +kernel
theorem dX1_isHere_61 : decode cX1_isHere 61 = .ok (.invokevirtual 205, 3) := by decide +kernel
theorem dX1_isHere_64 : decode cX1_isHere 64 = .ok (.iaload, 1) := by decide +kernel
theorem dX1_isHere_65 : decode cX1_isHere 65 = .ok (.if_icmp .ge 5, 3) := by decide +kernel
theorem dX1_isHere_68 : decode cX1_isHere 68 = .ok (.iconst 0, 1) := by decide +kernel
theorem dX1_isHere_69 : decode cX1_isHere 69 = .ok (.ireturn, 1) := by decide +kernel
theorem dX1_isHere_70 : decode cX1_isHere 70 = .ok (.aload_n 0, 1) := by decide +kernel
theorem dX1_isHere_71 : decode cX1_isHere 71 = .ok (.getfield 41, 3) := by decide +kernel
theorem dX1_isHere_74 : decode cX1_isHere 74 = .ok (.iload_n 3, 1) := by decide +kernel
theorem dX1_isHere_75 : decode cX1_isHere 75 = .ok (.iaload, 1) := by decide +kernel
theorem dX1_isHere_76 : decode cX1_isHere 76 = .ok (.istore 4, 2) := by decide +kernel
theorem dX1_isHere_78 : decode cX1_isHere 78 = .ok (.iload 4, 2) := by decide +kernel
theorem dX1_isHere_80 : decode cX1_isHere 80 = .ok (.iconst (-1), 1) := by decide +kernel
theorem dX1_isHere_81 : decode cX1_isHere 81 = .ok (.if_icmp .eq 31, 3) := by decide +kernel
theorem dX1_isHere_84 : decode cX1_isHere 84 = .ok (.iload_n 2, 1) := by decide +kernel
theorem dX1_isHere_85 : decode cX1_isHere 85 = .ok (.aload_n 0, 1) := by decide +kernel
theorem dX1_isHere_86 : decode cX1_isHere 86 = .ok (.getfield 38, 3) := by decide +kernel
theorem dX1_isHere_89 : decode cX1_isHere 89 = .ok (.iload_n 3, 1) := by decide +kernel
theorem dX1_isHere_90 : decode cX1_isHere 90 = .ok (.iaload, 1) := by decide +kernel
theorem dX1_isHere_91 : decode cX1_isHere 91 = .ok (.aload_n 0, 1) := by decide +kernel
theorem dX1_isHere_92 : decode cX1_isHere 92 = .ok (.getfield 64, 3) := by decide +kernel
theorem dX1_isHere_95 : decode cX1_isHere 95 = .ok (.iload 4, 2) := by decide +kernel
theorem dX1_isHere_97 : decode cX1_isHere 97 = .ok (.aload_n 0, 1) := by decide +kernel
theorem dX1_isHere_98 : decode cX1_isHere 98 = .ok (.getfield 68, 3) := by decide +kernel
theorem dX1_isHere_101 : decode cX1_isHere 101 = .ok (.iload_n 1, 1) := by decide +kernel
theorem dX1_isHere_102 : decode cX1_isHere 102 = .ok (.invokevirtual 159, 3) := by decide +kernel
theorem dX1_isHere_105 : decode cX1_isHere 105 = .ok (.invokevirtual 208, 3) := by decide +kernel
theorem dX1_isHere_108 : decode cX1_isHere 108 = .ok (.iadd, 1) := by decide +kernel
theorem dX1_isHere_109 : decode cX1_isHere 109 = .ok (.if_icmp .lt 7, 3) := by decide +kernel
theorem dX1_isHere_112 : decode cX1_isHere 112 = .ok (.iconst 1, 1) := by decide +kernel
theorem dX1_isHere_113 : decode cX1_isHere 113 = .ok (.goto 4, 3) := by decide +kernel
theorem dX1_isHere_116 : decode cX1_isHere 116 = .ok (.iconst 0, 1) := by decide +kernel
theorem dX1_isHere_117 : decode cX1_isHere 117 = .ok (.ireturn, 1) := by decide +kernel
noncomputable def tX1_isHere_38 : qT (Int32 × qM) :=
  oC (.int (0 : Int32)) (eZ)
noncomputable def wX1_isHere_38 (k : qM → Option (Int32 × qM)) : qT (Int32 × qM) := fun lo st m => match lo, st with
  | [_, _, _, _, _], [] => k m
  | _, _ => none
set_option maxRecDepth 20000 in
theorem sX1_isHere_38 {C : qCx} {w : qWp} (h : qOk C w RX1 cX1_isHere 5 1 155 155) (hm : qMt C (some .boolean)) (hx : qNx C) : qSnd C w 5 155 (qQf C w 155 155 jI) qfin 155 68 (tX1_isHere_38) :=
  cC (pc := 68) h dX1_isHere_68 rfl (zZ (pc := 69) h hm (Nat.le_refl _) dX1_isHere_69)
set_option maxRecDepth 20000 in
theorem lX1_isHere_38 (m : qM) : tX1_isHere_38 [none, none, none, none, none] [] m = fX1_isHere_38 m := rfl
theorem bX1_isHere_38 {C : qCx} {w : qWp} (h : qOk C w RX1 cX1_isHere 5 1 155 155) (hm : qMt C (some .boolean)) (hx : qNx C) : qSnd C w 5 155 (qQf C w 155 155 jI) qfin 155 68 (wX1_isHere_38 fX1_isHere_38) :=
  qSnd_of (fun lo st m x hr0 => by
    unfold wX1_isHere_38 at hr0
    split at hr0
    · exact ⟨_, (qsub_n (qsub_n (qsub_n (qsub_n (qsub_n qsub_nil))))), (lX1_isHere_38 _).trans hr0⟩
    · cases hr0) (sX1_isHere_38 h hm hx)
noncomputable def tX1_isHere_66 : qT (Int32 × qM) :=
  eZ
noncomputable def wX1_isHere_66 (k : Int32 → qM → Option (Int32 × qM)) : qT (Int32 × qM) := fun lo st m => match lo, st with
  | [_, _, _, _, _], [.int s0] => k s0 m
  | _, _ => none
set_option maxRecDepth 20000 in
theorem sX1_isHere_66 {C : qCx} {w : qWp} (h : qOk C w RX1 cX1_isHere 5 1 155 155) (hm : qMt C (some .boolean)) (hx : qNx C) : qSnd C w 5 155 (qQf C w 155 155 jI) qfin 155 117 (tX1_isHere_66) :=
  zZ (pc := 117) h hm (Nat.le_refl _) dX1_isHere_117
set_option maxRecDepth 20000 in
theorem lX1_isHere_66 (s0 : Int32) (m : qM) : tX1_isHere_66 [none, none, none, none, none] [(.int s0)] m = fX1_isHere_66 s0 m := rfl
theorem bX1_isHere_66 {C : qCx} {w : qWp} (h : qOk C w RX1 cX1_isHere 5 1 155 155) (hm : qMt C (some .boolean)) (hx : qNx C) : qSnd C w 5 155 (qQf C w 155 155 jI) qfin 155 117 (wX1_isHere_66 fX1_isHere_66) :=
  qSnd_of (fun lo st m x hr0 => by
    unfold wX1_isHere_66 at hr0
    split at hr0
    · exact ⟨_, (qsub_n (qsub_n (qsub_n (qsub_n (qsub_n qsub_nil))))), (lX1_isHere_66 _ _).trans hr0⟩
    · cases hr0) (sX1_isHere_66 h hm hx)
noncomputable def tX1_isHere_63 (j66 : qT (Int32 × qM)) : qT (Int32 × qM) :=
  oC (.int (1 : Int32)) (j66)
noncomputable def wX1_isHere_63 (k : qM → Option (Int32 × qM)) : qT (Int32 × qM) := fun lo st m => match lo, st with
  | [_, _, _, _, _], [] => k m
  | _, _ => none
set_option maxRecDepth 20000 in
theorem sX1_isHere_63 {C : qCx} {w : qWp} (h : qOk C w RX1 cX1_isHere 5 1 155 155) (hm : qMt C (some .boolean)) (hx : qNx C) {j66 : qT (Int32 × qM)} (k66 : qSnd C w 5 155 (qQf C w 155 155 jI) qfin 155 117 j66) : qSnd C w 5 155 (qQf C w 155 155 jI) qfin 155 112 (tX1_isHere_63 j66) :=
  cC (pc := 112) h dX1_isHere_112 rfl (jGo (pc := 113) h dX1_isHere_113 rfl (k66))
set_option maxRecDepth 20000 in
theorem lX1_isHere_63 (m : qM) : tX1_isHere_63 (wX1_isHere_66 fX1_isHere_66) [none, none, none, none, none] [] m = fX1_isHere_63 m := rfl
theorem bX1_isHere_63 {C : qCx} {w : qWp} (h : qOk C w RX1 cX1_isHere 5 1 155 155) (hm : qMt C (some .boolean)) (hx : qNx C) : qSnd C w 5 155 (qQf C w 155 155 jI) qfin 155 112 (wX1_isHere_63 fX1_isHere_63) :=
  qSnd_of (fun lo st m x hr0 => by
    unfold wX1_isHere_63 at hr0
    split at hr0
    · exact ⟨_, (qsub_n (qsub_n (qsub_n (qsub_n (qsub_n qsub_nil))))), (lX1_isHere_63 _).trans hr0⟩
    · cases hr0) (sX1_isHere_63 h hm hx (bX1_isHere_66 h hm hx))
noncomputable def tX1_isHere_0 (j38 : qT (Int32 × qM)) (j63 : qT (Int32 × qM)) (j66 : qT (Int32 × qM)) : qT (Int32 × qM) :=
  oLa 0 (oGf 80 3 58 (oLi 1 (oCi GX4_isAsk 2 (oEq (oC (.int (0 : Int32)) (eZ)) (oLa 0 (oGf 80 3 58 (oLi 1 (oCi GX4_familyOf 2 (oSi 3 (oLa 0 (oGf 80 17 91 (oLi 1 (oAi 91 40 (oEq (oLi 2 (oLa 0 (oGf 80 18 92 (oLi 3 (oAi 92 15 (oCLt (j38) (oLi 2 (oLa 0 (oGf 80 13 87 (oLi 3 (oAi 87 15 (oCLt (j38) (oLi 2 (oLa 0 (oGf 80 15 89 (oLa 0 (oGf 80 2 47 (oLi 3 (oCi GX3_tongueOf 2 (oAi 89 4 (oCGe (oLa 0 (oGf 80 14 88 (oLi 3 (oAi 88 15 (oSi 4 (oLi 4 (oC (.int (-1 : Int32)) (oCEq (j63) (oLi 2 (oLa 0 (oGf 80 13 87 (oLi 3 (oAi 87 15 (oLa 0 (oGf 80 2 47 (oLi 4 (oLa 0 (oGf 80 3 58 (oLi 1 (oCi GX4_teacherOf 2 (oCi GX3_walkBetween 3 (o2 (· + ·) (oCLt (oC (.int (0 : Int32)) (j66)) (j63)))))))))))))))))))))))) (j38)))))))))))))))))))))) (j38)))))))))))))))
set_option maxRecDepth 20000 in
theorem sX1_isHere_0 {C : qCx} {w : qWp} (h : qOk C w RX1 cX1_isHere 5 1 155 155) (hm : qMt C (some .boolean)) (hx : qNx C) {j38 : qT (Int32 × qM)} {j63 : qT (Int32 × qM)} {j66 : qT (Int32 × qM)} (k38 : qSnd C w 5 155 (qQf C w 155 155 jI) qfin 155 68 j38) (k63 : qSnd C w 5 155 (qQf C w 155 155 jI) qfin 155 112 j63) (k66 : qSnd C w 5 155 (qQf C w 155 155 jI) qfin 155 117 j66) : qSnd C w 5 155 (qQf C w 155 155 jI) qfin 155 0 (tX1_isHere_0 j38 j63 j66) :=
  cLa (pc := 0) h dX1_isHere_0 rfl (gGf (pc := 1) h dX1_isHere_1 ff_X1_68_80 (Nat.le_of_ble_eq_true rfl) (Nat.le_of_ble_eq_true rfl) rfl (cLi (pc := 4) h dX1_isHere_4 rfl (kCi (pc := 5) h (kd_X1_199 h dX1_isHere_5) spX4_isAsk (by decide) (by decide) (by decide) (by decide) (jNe (pc := 8) h dX1_isHere_8 rfl (cLa (pc := 13) h dX1_isHere_13 rfl (gGf (pc := 14) h dX1_isHere_14 ff_X1_68_80 (Nat.le_of_ble_eq_true rfl) (Nat.le_of_ble_eq_true rfl) rfl (cLi (pc := 17) h dX1_isHere_17 rfl (kCi (pc := 18) h (kd_X1_202 h dX1_isHere_18) spX4_familyOf (by decide) (by decide) (by decide) (by decide) (cSi (pc := 21) h dX1_isHere_21 rfl (cLa (pc := 22) h dX1_isHere_22 rfl (gGf (pc := 23) h dX1_isHere_23 ff_X1_50_80 (Nat.le_of_ble_eq_true rfl) (Nat.le_of_ble_eq_true rfl) rfl (cLi (pc := 26) h dX1_isHere_26 rfl (rAi (pc := 27) h dX1_isHere_27 rfl (Nat.le_of_ble_eq_true rfl) (Nat.le_of_ble_eq_true rfl) (jNe (pc := 28) h dX1_isHere_28 rfl (k38) (cLi (pc := 31) h dX1_isHere_31 rfl (cLa (pc := 32) h dX1_isHere_32 rfl (gGf (pc := 33) h dX1_isHere_33 ff_X1_53_80 (Nat.le_of_ble_eq_true rfl) (Nat.le_of_ble_eq_true rfl) rfl (cLi (pc := 36) h dX1_isHere_36 rfl (rAi (pc := 37) h dX1_isHere_37 rfl (Nat.le_of_ble_eq_true rfl) (Nat.le_of_ble_eq_true rfl) (jCLt (pc := 38) h dX1_isHere_38 rfl (k38) (cLi (pc := 41) h dX1_isHere_41 rfl (cLa (pc := 42) h dX1_isHere_42 rfl (gGf (pc := 43) h dX1_isHere_43 ff_X1_38_80 (Nat.le_of_ble_eq_true rfl) (Nat.le_of_ble_eq_true rfl) rfl (cLi (pc := 46) h dX1_isHere_46 rfl (rAi (pc := 47) h dX1_isHere_47 rfl (Nat.le_of_ble_eq_true rfl) (Nat.le_of_ble_eq_true rfl) (jCLt (pc := 48) h dX1_isHere_48 rfl (k38) (cLi (pc := 51) h dX1_isHere_51 rfl (cLa (pc := 52) h dX1_isHere_52 rfl (gGf (pc := 53) h dX1_isHere_53 ff_X1_44_80 (Nat.le_of_ble_eq_true rfl) (Nat.le_of_ble_eq_true rfl) rfl (cLa (pc := 56) h dX1_isHere_56 rfl (gGf (pc := 57) h dX1_isHere_57 ff_X1_64_80 (Nat.le_of_ble_eq_true rfl) (Nat.le_of_ble_eq_true rfl) rfl (cLi (pc := 60) h dX1_isHere_60 rfl (kCi (pc := 61) h (kd_X1_205 h dX1_isHere_61) spX3_tongueOf (by decide) (by decide) (by decide) (by decide) (rAi (pc := 64) h dX1_isHere_64 rfl (Nat.le_of_ble_eq_true rfl) (Nat.le_of_ble_eq_true rfl) (jCGe (pc := 65) h dX1_isHere_65 rfl (cLa (pc := 70) h dX1_isHere_70 rfl (gGf (pc := 71) h dX1_isHere_71 ff_X1_41_80 (Nat.le_of_ble_eq_true rfl) (Nat.le_of_ble_eq_true rfl) rfl (cLi (pc := 74) h dX1_isHere_74 rfl (rAi (pc := 75) h dX1_isHere_75 rfl (Nat.le_of_ble_eq_true rfl) (Nat.le_of_ble_eq_true rfl) (cSI (pc := 76) h dX1_isHere_76 (cLI (pc := 78) h dX1_isHere_78 (cC (pc := 80) h dX1_isHere_80 rfl (jCEq (pc := 81) h dX1_isHere_81 rfl (k63) (cLi (pc := 84) h dX1_isHere_84 rfl (cLa (pc := 85) h dX1_isHere_85 rfl (gGf (pc := 86) h dX1_isHere_86 ff_X1_38_80 (Nat.le_of_ble_eq_true rfl) (Nat.le_of_ble_eq_true rfl) rfl (cLi (pc := 89) h dX1_isHere_89 rfl (rAi (pc := 90) h dX1_isHere_90 rfl (Nat.le_of_ble_eq_true rfl) (Nat.le_of_ble_eq_true rfl) (cLa (pc := 91) h dX1_isHere_91 rfl (gGf (pc := 92) h dX1_isHere_92 ff_X1_64_80 (Nat.le_of_ble_eq_true rfl) (Nat.le_of_ble_eq_true rfl) rfl (cLI (pc := 95) h dX1_isHere_95 (cLa (pc := 97) h dX1_isHere_97 rfl (gGf (pc := 98) h dX1_isHere_98 ff_X1_68_80 (Nat.le_of_ble_eq_true rfl) (Nat.le_of_ble_eq_true rfl) rfl (cLi (pc := 101) h dX1_isHere_101 rfl (kCi (pc := 102) h (kd_X1_159 h dX1_isHere_102) spX4_teacherOf (by decide) (by decide) (by decide) (by decide) (kCi (pc := 105) h (kd_X1_208 h dX1_isHere_105) spX3_walkBetween (by decide) (by decide) (by decide) (by decide) (aAdd (pc := 108) h dX1_isHere_108 (jCLt (pc := 109) h dX1_isHere_109 rfl (cC (pc := 116) h dX1_isHere_116 rfl (k66)) (k63)))))))))))))))))))))))) (k38)))))))))))))))))))))))))))))))) (cC (pc := 11) h dX1_isHere_11 rfl (zZ (pc := 12) h hm (Nat.le_refl _) dX1_isHere_12))))))
set_option maxRecDepth 20000 in
theorem lX1_isHere_0 (a1 : Int32) (a2 : Int32) (m : qM) : tX1_isHere_0 (wX1_isHere_38 fX1_isHere_38) (wX1_isHere_63 fX1_isHere_63) (wX1_isHere_66 fX1_isHere_66) [some (.ref 80), some (.int a1), some (.int a2), none, none] [] m = fX1_isHere_0 a1 a2 m := rfl
noncomputable def GX1_isHere : qG Int32 := fun av m => match av with
  | [.ref 80, .int a1, .int a2] => fX1_isHere a1 a2 m
  | _ => none
theorem spX1_isHere : qSpI yX1_isHere (.code yX1_isHere cX1_isHere 5 (some .boolean)) 1 qfin 155 155 1 GX1_isHere := by
  intro av m x m' hG
  unfold GX1_isHere at hG
  split at hG
  · rename_i a1 a2
    rw [fX1_isHere_d] at hG
    exact ⟨qmeet (J := jI) (r := (x, m')) (av := [.ref 80, .int a1, .int a2]) (by decide +kernel) (Nat.le_of_ble_eq_true rfl) (fun C w h hm hx hn => sX1_isHere_0 h hm hx (bX1_isHere_38 h hm hx) (bX1_isHere_63 h hm hx) (bX1_isHere_66 h hm hx)) ((lX1_isHere_0 _ _ _).trans hG) (Nat.le_of_ble_eq_true rfl), Or.inl ⟨80, _, 1, _, _, rfl, by decide, rfl, qCk_1, rfl⟩⟩
  · cases hG
theorem ml_X1_162 : Jvm.Cond.methodLinkNest RX1 162 yX11_has "ParentEve" ∈ qTw := qm5 (List.mem_of_getElem? (i := 161) (by decide +kernel)) (by decide +kernel)
theorem kd_X1_162 {C : qCx} {w : qWp} {cc : ByteArray} {nL dp n0 n1 pc : Nat} (h : qOk C w RX1 cc nL dp n0 n1) (d : decode cc pc = .ok (.invokestatic 162, 3)) : qCallOk C w nL dp n0 n1 pc 2 0 yX11_has (.code yX11_has cX11_has 2 (some .boolean)) := kindSN h d ml_X1_162 im_X11_has in_ParentEve co_X11_has yk_X11_has (by decide)
theorem im_X4_askIn : Jvm.Cond.instanceMethod yX4_askIn ∈ qTw := qm5 (List.mem_of_getElem? (i := 148) (by decide +kernel)) (by decide +kernel)
theorem se_X4_askIn : Jvm.Cond.selects yX4_askIn.cls yX4_askIn yX4_askIn ∈ qTw := qm5 (List.mem_of_getElem? (i := 149) (by decide +kernel)) (by decide +kernel)
theorem co_X4_askIn : Jvm.Cond.code yX4_askIn cX4_askIn 3 (some .int) ∈ qTw := qm5 (List.mem_of_getElem? (i := 150) (by decide +kernel)) (by decide +kernel)
theorem yk_X4_askIn : qYk yX4_askIn 2 := ⟨⟨by decide +kernel, by decide +kernel⟩, by decide +kernel⟩
theorem ml_X1_127 : Jvm.Cond.methodLink RX1 127 yX4_askIn ∈ qTw := qm5 (List.mem_of_getElem? (i := 147) (by decide +kernel)) (by decide +kernel)
theorem kd_X1_127 {C : qCx} {w : qWp} {cc : ByteArray} {nL dp n0 n1 pc : Nat} (h : qOk C w RX1 cc nL dp n0 n1) (d : decode cc pc = .ok (.invokevirtual 127, 3)) : qCallOk C w nL dp n0 n1 pc 3 1 yX4_askIn (.code yX4_askIn cX4_askIn 3 (some .int)) := kindV h d ml_X1_127 im_X4_askIn se_X4_askIn in_ParentEve_Plan co_X4_askIn yk_X4_askIn (by decide)
theorem im_X1_isHere : Jvm.Cond.instanceMethod yX1_isHere ∈ qTw := qm5 (List.mem_of_getElem? (i := 164) (by decide +kernel)) (by decide +kernel)
theorem se_X1_isHere : Jvm.Cond.selects yX1_isHere.cls yX1_isHere yX1_isHere ∈ qTw := List.mem_filter.mpr ⟨List.mem_append_left _ (List.mem_of_getElem? (i := 23) (by decide +kernel)), rfl⟩
theorem co_X1_isHere : Jvm.Cond.code yX1_isHere cX1_isHere 5 (some .boolean) ∈ qTw := qm5 (List.mem_of_getElem? (i := 165) (by decide +kernel)) (by decide +kernel)
theorem yk_X1_isHere : qYk yX1_isHere 2 := ⟨⟨by decide +kernel, by decide +kernel⟩, by decide +kernel⟩
theorem ml_X1_166 : Jvm.Cond.methodLink RX1 166 yX1_isHere ∈ qTw := qm5 (List.mem_of_getElem? (i := 162) (by decide +kernel)) (by decide +kernel)
theorem kd_X1_166 {C : qCx} {w : qWp} {cc : ByteArray} {nL dp n0 n1 pc : Nat} (h : qOk C w RX1 cc nL dp n0 n1) (d : decode cc pc = .ok (.invokevirtual 166, 3)) : qCallOk C w nL dp n0 n1 pc 3 1 yX1_isHere (.code yX1_isHere cX1_isHere 5 (some .boolean)) := kindV h d ml_X1_166 im_X1_isHere se_X1_isHere in_ParentEve_Evening co_X1_isHere yk_X1_isHere (by decide)
theorem ml_X1_169 : Jvm.Cond.methodLink RX1 169 yX4_slotOf ∈ qTw := qm5 (List.mem_of_getElem? (i := 170) (by decide +kernel)) (by decide +kernel)
theorem kd_X1_169 {C : qCx} {w : qWp} {cc : ByteArray} {nL dp n0 n1 pc : Nat} (h : qOk C w RX1 cc nL dp n0 n1) (d : decode cc pc = .ok (.invokevirtual 169, 3)) : qCallOk C w nL dp n0 n1 pc 2 1 yX4_slotOf (.code yX4_slotOf cX4_slotOf 2 (some .int)) := kindV h d ml_X1_169 im_X4_slotOf se_X4_slotOf in_ParentEve_Plan co_X4_slotOf yk_X4_slotOf (by decide)
theorem ml_X1_172 : Jvm.Cond.methodLink RX1 172 yJ6_bitCount_0f7a4 ∈ qTw := qm5 (List.mem_of_getElem? (i := 171) (by decide +kernel)) (by decide +kernel)
theorem kd_X1_172 {C : qCx} {w : qWp} {cc : ByteArray} {nL dp n0 n1 pc : Nat} (h : qOk C w RX1 cc nL dp n0 n1) (d : decode cc pc = .ok (.invokestatic 172, 3)) : qCallOk C w nL dp n0 n1 pc 1 0 yJ6_bitCount_0f7a4 (.code yJ6_bitCount_0f7a4 cJ6_bitCount_0f7a4 1 (some .int)) := kindS h d ml_X1_172 im_J6_bitCount_0f7a4 in_java_lang_Integer co_J6_bitCount_0f7a4 yk_J6_bitCount_0f7a4 (by decide)
theorem ml_X1_177 : Jvm.Cond.methodLink RX1 177 yX4_isMust ∈ qTw := qm5 (List.mem_of_getElem? (i := 172) (by decide +kernel)) (by decide +kernel)
theorem kd_X1_177 {C : qCx} {w : qWp} {cc : ByteArray} {nL dp n0 n1 pc : Nat} (h : qOk C w RX1 cc nL dp n0 n1) (d : decode cc pc = .ok (.invokevirtual 177, 3)) : qCallOk C w nL dp n0 n1 pc 2 1 yX4_isMust (.code yX4_isMust cX4_isMust 2 (some .boolean)) := kindV h d ml_X1_177 im_X4_isMust se_X4_isMust in_ParentEve_Plan co_X4_isMust yk_X4_isMust (by decide)
theorem dX1_gatherFacts_0 : decode cX1_gatherFacts 0 = .ok (.aload_n 0, 1) := by decide +kernel
theorem dX1_gatherFacts_1 : decode cX1_gatherFacts 1 = .ok (.getfield 68, 3) := by decide +kernel
theorem dX1_gatherFacts_4 : decode cX1_gatherFacts 4 = .ok (.iload_n 1, 1) := by decide +kernel
theorem dX1_gatherFacts_5 : decode cX1_gatherFacts 5 = .ok (.invokevirtual 159, 3) := by decide +kernel
theorem dX1_gatherFacts_8 : decode cX1_gatherFacts 8 = .ok (.istore_n 3, 1) := by decide +kernel
theorem dX1_gatherFacts_9 : decode cX1_gatherFacts 9 = .ok (.aload_n 0, 1) := by decide +kernel
theorem dX1_gatherFacts_10 : decode cX1_gatherFacts 10 = .ok (.getfield 56, 3) := by decide +kernel
theorem dX1_gatherFacts_13 : decode cX1_gatherFacts 13 = .ok (.invokevirtual 111, 3) := by decide +kernel
theorem dX1_gatherFacts_16 : decode cX1_gatherFacts 16 = .ok (.istore 4, 2) := by decide +kernel
theorem dX1_gatherFacts_18 : decode cX1_gatherFacts 18 = .ok (.iconst 0, 1) := by decide +kernel
theorem dX1_gatherFacts_19 : decode cX1_gatherFacts 19 = .ok (.istore 5, 2) := by decide +kernel
theorem dX1_gatherFacts_21 : decode cX1_gatherFacts 21 = .ok (.iconst 0, 1) := by decide +kernel
theorem dX1_gatherFacts_22 : decode cX1_gatherFacts 22 = .ok (.istore 6, 2) := by decide +kernel
theorem dX1_gatherFacts_24 : decode cX1_gatherFacts 24 = .ok (.iload 6, 2) := by decide +kernel
theorem dX1_gatherFacts_26 : decode cX1_gatherFacts 26 = .ok (.bipush 20, 2) := by decide +kernel
theorem dX1_gatherFacts_28 : decode cX1_gatherFacts 28 = .ok (.if_icmp .ge 53, 3) := by decide +kernel
theorem dX1_gatherFacts_31 : decode cX1_gatherFacts 31 = .ok (.iload 6, 2) := by decide +kernel
theorem dX1_gatherFacts_33 : decode cX1_gatherFacts 33 = .ok (.iload 4, 2) := by decide +kernel
theorem dX1_gatherFacts_35 : decode cX1_gatherFacts 35 = .ok (.imul, 1) := by decide +kernel
theorem dX1_gatherFacts_36 : decode cX1_gatherFacts 36 = .ok (.iload_n 2, 1) := by decide +kernel
theorem dX1_gatherFacts_37 : decode cX1_gatherFacts 37 = .ok (.if_icmp .gt 44, 3) := by decide +kernel
theorem dX1_gatherFacts_40 : decode cX1_gatherFacts 40 = .ok (.aload_n 0, 1) := by decide +kernel
theorem dX1_gatherFacts_41 : decode cX1_gatherFacts 41 = .ok (.getfield 32, 3) := by decide +kernel
theorem dX1_gatherFacts_44 : decode cX1_gatherFacts 44 = .ok (.iload_n 3, 1) := by decide +kernel
theorem dX1_gatherFacts_45 : decode cX1_gatherFacts 45 = .ok (.iaload, 1) := by decide +kernel
theorem dX1_gatherFacts_46 : decode cX1_gatherFacts 46 = .ok (.iload 6, 2) := by decide +kernel
theorem dX1_gatherFacts_48 : decode cX1_gatherFacts 48 = .ok (.invokestatic 162, 3) := by decide +kernel
theorem dX1_gatherFacts_51 : decode cX1_gatherFacts 51 = .ok (.ifCond .eq 24, 3) := by decide +kernel
theorem dX1_gatherFacts_54 : decode cX1_gatherFacts 54 = .ok (.aload_n 0, 1) := by decide +kernel
theorem dX1_gatherFacts_55 : decode cX1_gatherFacts 55 = .ok (.aload_n 0, 1) := by decide +kernel
theorem dX1_gatherFacts_56 : decode cX1_gatherFacts 56 = .ok (.getfield 68, 3) := by decide +kernel
theorem dX1_gatherFacts_59 : decode cX1_gatherFacts 59 = .ok (.iload_n 3, 1) := by decide +kernel
theorem dX1_gatherFacts_60 : decode cX1_gatherFacts 60 = .ok (.iload 6, 2) := by decide +kernel
theorem dX1_gatherFacts_62 : decode cX1_gatherFacts 62 = .ok (.invokevirtual 127, 3) := by decide +kernel
theorem dX1_gatherFacts_65 : decode cX1_gatherFacts 65 = .ok (.iload_n 2, 1) := by decide +kernel
theorem dX1_gatherFacts_66 : decode cX1_gatherFacts 66 = .ok (.invokevirtual 166, 3) := by decide +kernel
theorem dX1_gatherFacts_69 : decode cX1_gatherFacts 69 = .ok (.ifCond .eq 6, 3) := by decide +kernel
theorem dX1_gatherFacts_72 : decode cX1_gatherFacts 72 = .ok (.iinc 5 1, 3) := by decide +kernel
theorem dX1_gatherFacts_75 : decode cX1_gatherFacts 75 = .ok (.iinc 6 1, 3) := by decide +kernel
theorem dX1_gatherFacts_78 : decode cX1_gatherFacts 78 = .ok (.goto (-54), 3) := by decide +kernel
theorem dX1_gatherFacts_81 : decode cX1_gatherFacts 81 = .ok (.aload_n 0, 1) := by decide +kernel
theorem dX1_gatherFacts_82 : decode cX1_gatherFacts 82 = .ok (.getfield 29, 3) := by decide +kernel
theorem dX1_gatherFacts_85 : decode cX1_gatherFacts 85 = .ok (.iconst 0, 1) := by decide +kernel
theorem dX1_gatherFacts_86 : decode cX1_gatherFacts 86 = .ok (.iload_n 2, 1) := by decide +kernel
theorem dX1_gatherFacts_87 : decode cX1_gatherFacts 87 = .ok (.aload_n 0, 1) := by decide +kernel
theorem dX1_gatherFacts_88 : decode cX1_gatherFacts 88 = .ok (.getfield 68, 3) := by decide +kernel
theorem dX1_gatherFacts_91 : decode cX1_gatherFacts 91 = .ok (.iload_n 1, 1) := by decide +kernel
theorem dX1_gatherFacts_92 : decode cX1_gatherFacts 92 = .ok (.invokevirtual 169, 3) := by decide +kernel
theorem dX1_gatherFacts_95 : decode cX1_gatherFacts 95 = .ok (.iload 4, 2) := by decide +kernel
theorem dX1_gatherFacts_97 : decode cX1_gatherFacts 97 = .ok (.imul, 1) := by decide +kernel
theorem dX1_gatherFacts_98 : decode cX1_gatherFacts 98 = .ok (.isub, 1) := by decide +kernel
theorem dX1_gatherFacts_99 : decode cX1_gatherFacts 99 = .ok (.iastore, 1) := by decide +kernel
theorem dX1_gatherFacts_100 : decode cX1_gatherFacts 100 = .ok (.aload_n 0, 1) := by decide +kernel
theorem dX1_gatherFacts_101 : decode cX1_gatherFacts 101 = .ok (.getfield 29, 3) := by decide +kernel
theorem dX1_gatherFacts_104 : decode cX1_gatherFacts 104 = .ok (.iconst 1, 1) := by decide +kernel
theorem dX1_gatherFacts_105 : decode cX1_gatherFacts 105 = .ok (.iload 5, 2) := by decide +kernel
theorem dX1_gatherFacts_107 : decode cX1_gatherFacts 107 = .ok (.iastore, 1) := by decide +kernel
theorem dX1_gatherFacts_108 : decode cX1_gatherFacts 108 = .ok (.aload_n 0, 1) := by decide +kernel
theorem dX1_gatherFacts_109 : decode cX1_gatherFacts 109 = .ok (.getfield 29, 3) := by decide +kernel
theorem dX1_gatherFacts_112 : decode cX1_gatherFacts 112 = .ok (.iconst 2, 1) := by decide +kernel
theorem dX1_gatherFacts_113 : decode cX1_gatherFacts 113 = .ok (.aload_n 0, 1) := by decide +kernel
theorem dX1_gatherFacts_114 : decode cX1_gatherFacts 114 = .ok (.getfield 32, 3) := by decide +kernel
theorem dX1_gatherFacts_117 : decode cX1_gatherFacts 117 = .ok (.iload_n 3, 1) := by decide +kernel
theorem dX1_gatherFacts_118 : decode cX1_gatherFacts 118 = .ok (.iaload, 1) := by decide +kernel
theorem dX1_gatherFacts_119 : decode cX1_gatherFacts 119 = .ok (.invokestatic 172, 3) := by decide +kernel
theorem dX1_gatherFacts_122 : decode cX1_gatherFacts 122 = .ok (.iastore, 1) := by decide +kernel
theorem dX1_gatherFacts_123 : decode cX1_gatherFacts 123 = .ok (.aload_n 0, 1) := by decide +kernel
theorem dX1_gatherFacts_124 : decode cX1_gatherFacts 124 = .ok (.getfield 29, 3) := by decide +kernel
theorem dX1_gatherFacts_127 : decode cX1_gatherFacts 127 = .ok (.iconst 3, 1) := by decide +kernel
theorem dX1_gatherFacts_128 : decode cX1_gatherFacts 128 = .ok (.aload_n 0, 1) := by decide +kernel
theorem dX1_gatherFacts_129 : decode cX1_gatherFacts 129 = .ok (.getfield 68, 3) := by decide +kernel
theorem dX1_gatherFacts_132 : decode cX1_gatherFacts 132 = .ok (.iload_n 1, 1) := by decide +kernel
theorem dX1_gatherFacts_133 : decode cX1_gatherFacts 133 = .ok (.invokevirtual 177, 3) := by decide +kernel
theorem dX1_gatherFacts_136 : decode cX1_gatherFacts 136 = .ok (.ifCond .eq 7, 3) := by decide +kernel
theorem dX1_gatherFacts_139 : decode cX1_gatherFacts 139 = .ok (.iconst 1, 1) := by decide +kernel
theorem dX1_gatherFacts_140 : decode cX1_gatherFacts 140 = .ok (.goto 4, 3) := by decide +kernel
theorem dX1_gatherFacts_143 : decode cX1_gatherFacts 143 = .ok (.iconst 0, 1) := by decide +kernel
theorem dX1_gatherFacts_144 : decode cX1_gatherFacts 144 = .ok (.iastore, 1) := by decide +kernel
theorem dX1_gatherFacts_145 : decode cX1_gatherFacts 145 = .ok (.aload_n 0, 1) := by decide +kernel
theorem dX1_gatherFacts_146 : decode cX1_gatherFacts 146 = .ok (.getfield 29, 3) := by decide +kernel
theorem dX1_gatherFacts_149 : decode cX1_gatherFacts 149 = .ok (.iconst 4, 1) := by decide +kernel
theorem dX1_gatherFacts_150 : decode cX1_gatherFacts 150 = .ok (.aload_n 0, 1) := by decide +kernel
theorem dX1_gatherFacts_151 : decode cX1_gatherFacts 151 = .ok (.iload_n 1, 1) := by decide +kernel
theorem dX1_gatherFacts_152 : decode cX1_gatherFacts 152 = .ok (.iload_n 2, 1) := by decide +kernel
theorem dX1_gatherFacts_153 : decode cX1_gatherFacts 153 = .ok (.invokevirtual 166, 3) := by decide +kernel
theorem dX1_gatherFacts_156 : decode cX1_gatherFacts 156 = .ok (.ifCond .eq 7, 3) := by decide +kernel
theorem dX1_gatherFacts_159 : decode cX1_gatherFacts 159 = .ok (.iconst 1, 1) := by decide +kernel
theorem dX1_gatherFacts_160 : decode cX1_gatherFacts 160 = .ok (.goto 4, 3) := by decide +kernel
theorem dX1_gatherFacts_163 : decode cX1_gatherFacts 163 = .ok (.iconst 0, 1) := by decide +kernel
theorem dX1_gatherFacts_164 : decode cX1_gatherFacts 164 = .ok (.iastore, 1) := by decide +kernel
theorem dX1_gatherFacts_165 : decode cX1_gatherFacts 165 = .ok (.aload_n 0, 1) := by decide +kernel
theorem dX1_gatherFacts_166 : decode cX1_gatherFacts 166 = .ok (.getfield 29, 3) := by decide +kernel
theorem dX1_gatherFacts_169 : decode cX1_gatherFacts 169 = .ok (.iconst 5, 1) := by decide +kernel
theorem dX1_gatherFacts_170 : decode cX1_gatherFacts 170 = .ok (.aload_n 0, 1) := by decide +kernel
theorem dX1_gatherFacts_171 : decode cX1_gatherFacts 171 = .ok (.getfield 68, 3) := by decide +kernel
theorem dX1_gatherFacts_174 : decode cX1_gatherFacts 174 = .ok (.iload_n 1, 1) := by decide +kernel
theorem dX1_gatherFacts_175 : decode cX1_gatherFacts 175 = .ok (.invokevirtual 169, 3) := by decide +kernel
theorem dX1_gatherFacts_178 : decode cX1_gatherFacts 178 = .ok (.iastore, 1) := by decide +kernel
theorem dX1_gatherFacts_179 : decode cX1_gatherFacts 179 = .ok (.return_, 1) := by decide +kernel
noncomputable def tX1_gatherFacts_38 (j13 : qT (Unit × qM)) : qT (Unit × qM) :=
  oInc 6 (1 : Int32) (j13)
noncomputable def wX1_gatherFacts_38 (k : Int32 → Int32 → Int32 → Int32 → Int32 → Int32 → qM → Option (Unit × qM)) : qT (Unit × qM) := fun lo st m => match lo, st with
  | [some (.ref 80), some (.int a1), some (.int a2), some (.int a3), some (.int a4), some (.int a5), some (.int a6)], [] => k a1 a2 a3 a4 a5 a6 m
  | _, _ => none
noncomputable def wX1_gatherFacts_13 (k : Int32 → Int32 → Int32 → Int32 → Int32 → Int32 → qM → Option (Unit × qM)) : qT (Unit × qM) := fun lo st m => match lo, st with
  | [some (.ref 80), some (.int a1), some (.int a2), some (.int a3), some (.int a4), some (.int a5), some (.int a6)], [] => k a1 a2 a3 a4 a5 a6 m
  | _, _ => none
set_option maxRecDepth 20000 in
theorem sX1_gatherFacts_38 {C : qCx} {w : qWp} (h : qOk C w RX1 cX1_gatherFacts 7 2 155 155) (hm : qMt C none) (hx : qNx C) {j13 : qT (Unit × qM)} (k13 : qSnd C w 7 155 (qQf C w 155 155 jV) qfin 155 24 j13) : qSnd C w 7 155 (qQf C w 155 155 jV) qfin 155 75 (tX1_gatherFacts_38 j13) :=
  cInc (pc := 75) h dX1_gatherFacts_75 rfl (jGo (pc := 78) h dX1_gatherFacts_78 rfl (k13))
set_option maxRecDepth 20000 in
theorem lX1_gatherFacts_38 (k13 : Int32 → Int32 → Int32 → Int32 → Int32 → Int32 → qM → Option (Unit × qM)) (a1 : Int32) (a2 : Int32) (a3 : Int32) (a4 : Int32) (a5 : Int32) (a6 : Int32) (m : qM) : tX1_gatherFacts_38 (wX1_gatherFacts_13 k13) [some (.ref 80), some (.int a1), some (.int a2), some (.int a3), some (.int a4), some (.int a5), some (.int a6)] [] m = fX1_gatherFacts_38 k13 a1 a2 a3 a4 a5 a6 m := rfl
theorem bX1_gatherFacts_38 {C : qCx} {w : qWp} (h : qOk C w RX1 cX1_gatherFacts 7 2 155 155) (hm : qMt C none) (hx : qNx C) {k13 : Int32 → Int32 → Int32 → Int32 → Int32 → Int32 → qM → Option (Unit × qM)} (h13 : qSnd C w 7 155 (qQf C w 155 155 jV) qfin 155 24 (wX1_gatherFacts_13 k13)) : qSnd C w 7 155 (qQf C w 155 155 jV) qfin 155 75 (wX1_gatherFacts_38 (fX1_gatherFacts_38 k13)) :=
  qSnd_of (fun lo st m x hr0 => by
    unfold wX1_gatherFacts_38 at hr0
    split at hr0
    · exact ⟨_, (qsub_e (qsub_e (qsub_e (qsub_e (qsub_e (qsub_e (qsub_e qsub_nil))))))), (lX1_gatherFacts_38 _ _ _ _ _ _ _ _).trans hr0⟩
    · cases hr0) (sX1_gatherFacts_38 h hm hx h13)
noncomputable def tX1_gatherFacts_13 (j40 : qT (Unit × qM)) (j38 : qT (Unit × qM)) : qT (Unit × qM) :=
  oLi 6 (oC (.int (20 : Int32)) (oCGe (j40) (oLi 6 (oLi 4 (o2 (· * ·) (oLi 2 (oCGt (j40) (oLa 0 (oGf 80 11 85 (oLi 3 (oAi 85 10 (oLi 6 (oCi GX11_has 2 (oEq (j38) (oLa 0 (oLa 0 (oGf 80 3 58 (oLi 3 (oLi 6 (oCi GX4_askIn 3 (oLi 2 (oCi GX1_isHere 3 (oEq (j38) (oInc 5 (1 : Int32) (j38)))))))))))))))))))))))))
noncomputable def wX1_gatherFacts_40 (k : Int32 → Int32 → Int32 → Int32 → Int32 → qM → Option (Unit × qM)) : qT (Unit × qM) := fun lo st m => match lo, st with
  | [some (.ref 80), some (.int a1), some (.int a2), some (.int a3), some (.int a4), some (.int a5), _], [] => k a1 a2 a3 a4 a5 m
  | _, _ => none
set_option maxRecDepth 20000 in
theorem sX1_gatherFacts_13 {C : qCx} {w : qWp} (h : qOk C w RX1 cX1_gatherFacts 7 2 155 155) (hm : qMt C none) (hx : qNx C) {j40 : qT (Unit × qM)} {j38 : qT (Unit × qM)} (k40 : qSnd C w 7 155 (qQf C w 155 155 jV) qfin 155 81 j40) (k38 : qSnd C w 7 155 (qQf C w 155 155 jV) qfin 155 75 j38) : qSnd C w 7 155 (qQf C w 155 155 jV) qfin 155 24 (tX1_gatherFacts_13 j40 j38) :=
  cLI (pc := 24) h dX1_gatherFacts_24 (cB (pc := 26) h dX1_gatherFacts_26 rfl (jCGe (pc := 28) h dX1_gatherFacts_28 rfl (k40) (cLI (pc := 31) h dX1_gatherFacts_31 (cLI (pc := 33) h dX1_gatherFacts_33 (aMul (pc := 35) h dX1_gatherFacts_35 (cLi (pc := 36) h dX1_gatherFacts_36 rfl (jCGt (pc := 37) h dX1_gatherFacts_37 rfl (k40) (cLa (pc := 40) h dX1_gatherFacts_40 rfl (gGf (pc := 41) h dX1_gatherFacts_41 ff_X1_32_80 (Nat.le_of_ble_eq_true rfl) (Nat.le_of_ble_eq_true rfl) rfl (cLi (pc := 44) h dX1_gatherFacts_44 rfl (rAi (pc := 45) h dX1_gatherFacts_45 rfl (Nat.le_of_ble_eq_true rfl) (Nat.le_of_ble_eq_true rfl) (cLI (pc := 46) h dX1_gatherFacts_46 (kCi (pc := 48) h (kd_X1_162 h dX1_gatherFacts_48) spX11_has (by decide) (by decide) (by decide) (by decide) (jEq (pc := 51) h dX1_gatherFacts_51 rfl (k38) (cLa (pc := 54) h dX1_gatherFacts_54 rfl (cLa (pc := 55) h dX1_gatherFacts_55 rfl (gGf (pc := 56) h dX1_gatherFacts_56 ff_X1_68_80 (Nat.le_of_ble_eq_true rfl) (Nat.le_of_ble_eq_true rfl) rfl (cLi (pc := 59) h dX1_gatherFacts_59 rfl (cLI (pc := 60) h dX1_gatherFacts_60 (kCi (pc := 62) h (kd_X1_127 h dX1_gatherFacts_62) spX4_askIn (by decide) (by decide) (by decide) (by decide) (cLi (pc := 65) h dX1_gatherFacts_65 rfl (kCi (pc := 66) h (kd_X1_166 h dX1_gatherFacts_66) spX1_isHere (by decide) (by decide) (by decide) (by decide) (jEq (pc := 69) h dX1_gatherFacts_69 rfl (k38) (cInc (pc := 72) h dX1_gatherFacts_72 rfl (k38)))))))))))))))))))))))))
set_option maxRecDepth 20000 in
theorem lX1_gatherFacts_13 (k40 : Int32 → Int32 → Int32 → Int32 → Int32 → qM → Option (Unit × qM)) (n : Nat) (a1 : Int32) (a2 : Int32) (a3 : Int32) (a4 : Int32) (a5 : Int32) (a6 : Int32) (m : qM) : tX1_gatherFacts_13 (wX1_gatherFacts_40 k40) (wX1_gatherFacts_38 (fX1_gatherFacts_38 (fX1_gatherFacts_13 k40 n))) [some (.ref 80), some (.int a1), some (.int a2), some (.int a3), some (.int a4), some (.int a5), some (.int a6)] [] m = fX1_gatherFacts_13 k40 (n + 1) a1 a2 a3 a4 a5 a6 m := rfl
theorem bX1_gatherFacts_13 {C : qCx} {w : qWp} (h : qOk C w RX1 cX1_gatherFacts 7 2 155 155) (hm : qMt C none) (hx : qNx C) {k40 : Int32 → Int32 → Int32 → Int32 → Int32 → qM → Option (Unit × qM)} (h40 : qSnd C w 7 155 (qQf C w 155 155 jV) qfin 155 81 (wX1_gatherFacts_40 k40)) : ∀ n : Nat, qSnd C w 7 155 (qQf C w 155 155 jV) qfin 155 24 (wX1_gatherFacts_13 (fX1_gatherFacts_13 k40 n))
  | 0 => qSnd_of0 (fun lo st m x hr0 => by
    unfold wX1_gatherFacts_13 at hr0
    split at hr0
    · cases hr0
    · cases hr0)
  | n + 1 => by
    have ih := bX1_gatherFacts_13 h hm hx h40 n
    exact qSnd_of (fun lo st m x hr0 => by
    unfold wX1_gatherFacts_13 at hr0
    split at hr0
    · exact ⟨_, (qsub_e (qsub_e (qsub_e (qsub_e (qsub_e (qsub_e (qsub_e qsub_nil))))))), (lX1_gatherFacts_13 _ n _ _ _ _ _ _ _).trans hr0⟩
    · cases hr0) (sX1_gatherFacts_13 h hm hx h40 (bX1_gatherFacts_38 h hm hx ih))
noncomputable def tX1_gatherFacts_89 : qT (Unit × qM) :=
  oWi 84 6 (oLa 0 (oGf 80 10 84 (oC (.int (5 : Int32)) (oLa 0 (oGf 80 3 58 (oLi 1 (oCi GX4_slotOf 2 (oWi 84 6 (eV)))))))))
noncomputable def wX1_gatherFacts_89 (k : Int32 → Int32 → Int32 → qM → Option (Unit × qM)) : qT (Unit × qM) := fun lo st m => match lo, st with
  | [some (.ref 80), some (.int a1), _, _, _, _, _], [.int s0, .int s1, .ref 84] => k a1 s0 s1 m
  | _, _ => none
set_option maxRecDepth 20000 in
theorem sX1_gatherFacts_89 {C : qCx} {w : qWp} (h : qOk C w RX1 cX1_gatherFacts 7 2 155 155) (hm : qMt C none) (hx : qNx C) : qSnd C w 7 155 (qQf C w 155 155 jV) qfin 155 164 (tX1_gatherFacts_89) :=
  rWi (pc := 164) h dX1_gatherFacts_164 rfl (Nat.le_of_ble_eq_true rfl) (Nat.le_of_ble_eq_true rfl) (cLa (pc := 165) h dX1_gatherFacts_165 rfl (gGf (pc := 166) h dX1_gatherFacts_166 ff_X1_29_80 (Nat.le_of_ble_eq_true rfl) (Nat.le_of_ble_eq_true rfl) rfl (cC (pc := 169) h dX1_gatherFacts_169 rfl (cLa (pc := 170) h dX1_gatherFacts_170 rfl (gGf (pc := 171) h dX1_gatherFacts_171 ff_X1_68_80 (Nat.le_of_ble_eq_true rfl) (Nat.le_of_ble_eq_true rfl) rfl (cLi (pc := 174) h dX1_gatherFacts_174 rfl (kCi (pc := 175) h (kd_X1_169 h dX1_gatherFacts_175) spX4_slotOf (by decide) (by decide) (by decide) (by decide) (rWi (pc := 178) h dX1_gatherFacts_178 rfl (Nat.le_of_ble_eq_true rfl) (Nat.le_of_ble_eq_true rfl) (zV (pc := 179) h hm (Nat.le_refl _) dX1_gatherFacts_179)))))))))
set_option maxRecDepth 20000 in
theorem lX1_gatherFacts_89 (a1 : Int32) (s0 : Int32) (s1 : Int32) (m : qM) : tX1_gatherFacts_89 [some (.ref 80), some (.int a1), none, none, none, none, none] [(.int s0), (.int s1), (.ref 84)] m = fX1_gatherFacts_89 a1 s0 s1 m := rfl
theorem bX1_gatherFacts_89 {C : qCx} {w : qWp} (h : qOk C w RX1 cX1_gatherFacts 7 2 155 155) (hm : qMt C none) (hx : qNx C) : qSnd C w 7 155 (qQf C w 155 155 jV) qfin 155 164 (wX1_gatherFacts_89 fX1_gatherFacts_89) :=
  qSnd_of (fun lo st m x hr0 => by
    unfold wX1_gatherFacts_89 at hr0
    split at hr0
    · exact ⟨_, (qsub_e (qsub_e (qsub_n (qsub_n (qsub_n (qsub_n (qsub_n qsub_nil))))))), (lX1_gatherFacts_89 _ _ _ _).trans hr0⟩
    · cases hr0) (sX1_gatherFacts_89 h hm hx)
noncomputable def tX1_gatherFacts_77 (j89 : qT (Unit × qM)) : qT (Unit × qM) :=
  oWi 84 6 (oLa 0 (oGf 80 10 84 (oC (.int (4 : Int32)) (oLa 0 (oLi 1 (oLi 2 (oCi GX1_isHere 3 (oEq (oC (.int (0 : Int32)) (j89)) (oC (.int (1 : Int32)) (j89))))))))))
noncomputable def wX1_gatherFacts_77 (k : Int32 → Int32 → Int32 → Int32 → qM → Option (Unit × qM)) : qT (Unit × qM) := fun lo st m => match lo, st with
  | [some (.ref 80), some (.int a1), some (.int a2), _, _, _, _], [.int s0, .int s1, .ref 84] => k a1 a2 s0 s1 m
  | _, _ => none
set_option maxRecDepth 20000 in
theorem sX1_gatherFacts_77 {C : qCx} {w : qWp} (h : qOk C w RX1 cX1_gatherFacts 7 2 155 155) (hm : qMt C none) (hx : qNx C) {j89 : qT (Unit × qM)} (k89 : qSnd C w 7 155 (qQf C w 155 155 jV) qfin 155 164 j89) : qSnd C w 7 155 (qQf C w 155 155 jV) qfin 155 144 (tX1_gatherFacts_77 j89) :=
  rWi (pc := 144) h dX1_gatherFacts_144 rfl (Nat.le_of_ble_eq_true rfl) (Nat.le_of_ble_eq_true rfl) (cLa (pc := 145) h dX1_gatherFacts_145 rfl (gGf (pc := 146) h dX1_gatherFacts_146 ff_X1_29_80 (Nat.le_of_ble_eq_true rfl) (Nat.le_of_ble_eq_true rfl) rfl (cC (pc := 149) h dX1_gatherFacts_149 rfl (cLa (pc := 150) h dX1_gatherFacts_150 rfl (cLi (pc := 151) h dX1_gatherFacts_151 rfl (cLi (pc := 152) h dX1_gatherFacts_152 rfl (kCi (pc := 153) h (kd_X1_166 h dX1_gatherFacts_153) spX1_isHere (by decide) (by decide) (by decide) (by decide) (jEq (pc := 156) h dX1_gatherFacts_156 rfl (cC (pc := 163) h dX1_gatherFacts_163 rfl (k89)) (cC (pc := 159) h dX1_gatherFacts_159 rfl (jGo (pc := 160) h dX1_gatherFacts_160 rfl (k89)))))))))))
set_option maxRecDepth 20000 in
theorem lX1_gatherFacts_77 (a1 : Int32) (a2 : Int32) (s0 : Int32) (s1 : Int32) (m : qM) : tX1_gatherFacts_77 (wX1_gatherFacts_89 fX1_gatherFacts_89) [some (.ref 80), some (.int a1), some (.int a2), none, none, none, none] [(.int s0), (.int s1), (.ref 84)] m = fX1_gatherFacts_77 a1 a2 s0 s1 m := rfl
theorem bX1_gatherFacts_77 {C : qCx} {w : qWp} (h : qOk C w RX1 cX1_gatherFacts 7 2 155 155) (hm : qMt C none) (hx : qNx C) : qSnd C w 7 155 (qQf C w 155 155 jV) qfin 155 144 (wX1_gatherFacts_77 fX1_gatherFacts_77) :=
  qSnd_of (fun lo st m x hr0 => by
    unfold wX1_gatherFacts_77 at hr0
    split at hr0
    · exact ⟨_, (qsub_e (qsub_e (qsub_e (qsub_n (qsub_n (qsub_n (qsub_n qsub_nil))))))), (lX1_gatherFacts_77 _ _ _ _ _).trans hr0⟩
    · cases hr0) (sX1_gatherFacts_77 h hm hx (bX1_gatherFacts_89 h hm hx))
noncomputable def tX1_gatherFacts_40 (j77 : qT (Unit × qM)) : qT (Unit × qM) :=
  oLa 0 (oGf 80 10 84 (oC (.int (0 : Int32)) (oLi 2 (oLa 0 (oGf 80 3 58 (oLi 1 (oCi GX4_slotOf 2 (oLi 4 (o2 (· * ·) (o2 (· - ·) (oWi 84 6 (oLa 0 (oGf 80 10 84 (oC (.int (1 : Int32)) (oLi 5 (oWi 84 6 (oLa 0 (oGf 80 10 84 (oC (.int (2 : Int32)) (oLa 0 (oGf 80 11 85 (oLi 3 (oAi 85 10 (oCi GJ6_bitCount_0f7a4 1 (oWi 84 6 (oLa 0 (oGf 80 10 84 (oC (.int (3 : Int32)) (oLa 0 (oGf 80 3 58 (oLi 1 (oCi GX4_isMust 2 (oEq (oC (.int (0 : Int32)) (j77)) (oC (.int (1 : Int32)) (j77)))))))))))))))))))))))))))))))))))
set_option maxRecDepth 20000 in
theorem sX1_gatherFacts_40 {C : qCx} {w : qWp} (h : qOk C w RX1 cX1_gatherFacts 7 2 155 155) (hm : qMt C none) (hx : qNx C) {j77 : qT (Unit × qM)} (k77 : qSnd C w 7 155 (qQf C w 155 155 jV) qfin 155 144 j77) : qSnd C w 7 155 (qQf C w 155 155 jV) qfin 155 81 (tX1_gatherFacts_40 j77) :=
  cLa (pc := 81) h dX1_gatherFacts_81 rfl (gGf (pc := 82) h dX1_gatherFacts_82 ff_X1_29_80 (Nat.le_of_ble_eq_true rfl) (Nat.le_of_ble_eq_true rfl) rfl (cC (pc := 85) h dX1_gatherFacts_85 rfl (cLi (pc := 86) h dX1_gatherFacts_86 rfl (cLa (pc := 87) h dX1_gatherFacts_87 rfl (gGf (pc := 88) h dX1_gatherFacts_88 ff_X1_68_80 (Nat.le_of_ble_eq_true rfl) (Nat.le_of_ble_eq_true rfl) rfl (cLi (pc := 91) h dX1_gatherFacts_91 rfl (kCi (pc := 92) h (kd_X1_169 h dX1_gatherFacts_92) spX4_slotOf (by decide) (by decide) (by decide) (by decide) (cLI (pc := 95) h dX1_gatherFacts_95 (aMul (pc := 97) h dX1_gatherFacts_97 (aSub (pc := 98) h dX1_gatherFacts_98 (rWi (pc := 99) h dX1_gatherFacts_99 rfl (Nat.le_of_ble_eq_true rfl) (Nat.le_of_ble_eq_true rfl) (cLa (pc := 100) h dX1_gatherFacts_100 rfl (gGf (pc := 101) h dX1_gatherFacts_101 ff_X1_29_80 (Nat.le_of_ble_eq_true rfl) (Nat.le_of_ble_eq_true rfl) rfl (cC (pc := 104) h dX1_gatherFacts_104 rfl (cLI (pc := 105) h dX1_gatherFacts_105 (rWi (pc := 107) h dX1_gatherFacts_107 rfl (Nat.le_of_ble_eq_true rfl) (Nat.le_of_ble_eq_true rfl) (cLa (pc := 108) h dX1_gatherFacts_108 rfl (gGf (pc := 109) h dX1_gatherFacts_109 ff_X1_29_80 (Nat.le_of_ble_eq_true rfl) (Nat.le_of_ble_eq_true rfl) rfl (cC (pc := 112) h dX1_gatherFacts_112 rfl (cLa (pc := 113) h dX1_gatherFacts_113 rfl (gGf (pc := 114) h dX1_gatherFacts_114 ff_X1_32_80 (Nat.le_of_ble_eq_true rfl) (Nat.le_of_ble_eq_true rfl) rfl (cLi (pc := 117) h dX1_gatherFacts_117 rfl (rAi (pc := 118) h dX1_gatherFacts_118 rfl (Nat.le_of_ble_eq_true rfl) (Nat.le_of_ble_eq_true rfl) (kCi (pc := 119) h (kd_X1_172 h dX1_gatherFacts_119) spJ6_bitCount_0f7a4 (by decide) (by decide) (by decide) (by decide) (rWi (pc := 122) h dX1_gatherFacts_122 rfl (Nat.le_of_ble_eq_true rfl) (Nat.le_of_ble_eq_true rfl) (cLa (pc := 123) h dX1_gatherFacts_123 rfl (gGf (pc := 124) h dX1_gatherFacts_124 ff_X1_29_80 (Nat.le_of_ble_eq_true rfl) (Nat.le_of_ble_eq_true rfl) rfl (cC (pc := 127) h dX1_gatherFacts_127 rfl (cLa (pc := 128) h dX1_gatherFacts_128 rfl (gGf (pc := 129) h dX1_gatherFacts_129 ff_X1_68_80 (Nat.le_of_ble_eq_true rfl) (Nat.le_of_ble_eq_true rfl) rfl (cLi (pc := 132) h dX1_gatherFacts_132 rfl (kCi (pc := 133) h (kd_X1_177 h dX1_gatherFacts_133) spX4_isMust (by decide) (by decide) (by decide) (by decide) (jEq (pc := 136) h dX1_gatherFacts_136 rfl (cC (pc := 143) h dX1_gatherFacts_143 rfl (k77)) (cC (pc := 139) h dX1_gatherFacts_139 rfl (jGo (pc := 140) h dX1_gatherFacts_140 rfl (k77))))))))))))))))))))))))))))))))))))
set_option maxRecDepth 20000 in
theorem lX1_gatherFacts_40 (a1 : Int32) (a2 : Int32) (a3 : Int32) (a4 : Int32) (a5 : Int32) (m : qM) : tX1_gatherFacts_40 (wX1_gatherFacts_77 fX1_gatherFacts_77) [some (.ref 80), some (.int a1), some (.int a2), some (.int a3), some (.int a4), some (.int a5), none] [] m = fX1_gatherFacts_40 a1 a2 a3 a4 a5 m := rfl
theorem bX1_gatherFacts_40 {C : qCx} {w : qWp} (h : qOk C w RX1 cX1_gatherFacts 7 2 155 155) (hm : qMt C none) (hx : qNx C) : qSnd C w 7 155 (qQf C w 155 155 jV) qfin 155 81 (wX1_gatherFacts_40 fX1_gatherFacts_40) :=
  qSnd_of (fun lo st m x hr0 => by
    unfold wX1_gatherFacts_40 at hr0
    split at hr0
    · exact ⟨_, (qsub_e (qsub_e (qsub_e (qsub_e (qsub_e (qsub_e (qsub_n qsub_nil))))))), (lX1_gatherFacts_40 _ _ _ _ _ _).trans hr0⟩
    · cases hr0) (sX1_gatherFacts_40 h hm hx (bX1_gatherFacts_77 h hm hx))
noncomputable def tX1_gatherFacts_0 (j13 : qT (Unit × qM)) : qT (Unit × qM) :=
  oLa 0 (oGf 80 3 58 (oLi 1 (oCi GX4_teacherOf 2 (oSi 3 (oLa 0 (oGf 80 0 4 (oCi GX7_slotMinutes 1 (oSi 4 (oC (.int (0 : Int32)) (oSi 5 (oC (.int (0 : Int32)) (oSi 6 (j13)))))))))))))
set_option maxRecDepth 20000 in
theorem sX1_gatherFacts_0 {C : qCx} {w : qWp} (h : qOk C w RX1 cX1_gatherFacts 7 2 155 155) (hm : qMt C none) (hx : qNx C) {j13 : qT (Unit × qM)} (k13 : qSnd C w 7 155 (qQf C w 155 155 jV) qfin 155 24 j13) : qSnd C w 7 155 (qQf C w 155 155 jV) qfin 155 0 (tX1_gatherFacts_0 j13) :=
  cLa (pc := 0) h dX1_gatherFacts_0 rfl (gGf (pc := 1) h dX1_gatherFacts_1 ff_X1_68_80 (Nat.le_of_ble_eq_true rfl) (Nat.le_of_ble_eq_true rfl) rfl (cLi (pc := 4) h dX1_gatherFacts_4 rfl (kCi (pc := 5) h (kd_X1_159 h dX1_gatherFacts_5) spX4_teacherOf (by decide) (by decide) (by decide) (by decide) (cSi (pc := 8) h dX1_gatherFacts_8 rfl (cLa (pc := 9) h dX1_gatherFacts_9 rfl (gGf (pc := 10) h dX1_gatherFacts_10 ff_X1_56_80 (Nat.le_of_ble_eq_true rfl) (Nat.le_of_ble_eq_true rfl) rfl (kCi (pc := 13) h (kd_X1_111 h dX1_gatherFacts_13) spX7_slotMinutes (by decide) (by decide) (by decide) (by decide) (cSI (pc := 16) h dX1_gatherFacts_16 (cC (pc := 18) h dX1_gatherFacts_18 rfl (cSI (pc := 19) h dX1_gatherFacts_19 (cC (pc := 21) h dX1_gatherFacts_21 rfl (cSI (pc := 22) h dX1_gatherFacts_22 (k13)))))))))))))
set_option maxRecDepth 20000 in
theorem lX1_gatherFacts_0 (a1 : Int32) (a2 : Int32) (m : qM) : tX1_gatherFacts_0 (wX1_gatherFacts_13 (fX1_gatherFacts_13 fX1_gatherFacts_40 FU)) [some (.ref 80), some (.int a1), some (.int a2), none, none, none, none] [] m = fX1_gatherFacts_0 a1 a2 m := rfl
noncomputable def GX1_gatherFacts : qG Unit := fun av m => match av with
  | [.ref 80, .int a1, .int a2] => fX1_gatherFacts a1 a2 m
  | _ => none
theorem spX1_gatherFacts : qSpV yX1_gatherFacts (.code yX1_gatherFacts cX1_gatherFacts 7 none) 2 qfin 155 155 1 GX1_gatherFacts := by
  intro av m m' hG
  unfold GX1_gatherFacts at hG
  split at hG
  · rename_i a1 a2
    rw [fX1_gatherFacts_d] at hG
    exact ⟨qmeet (J := jV) (r := ((), m')) (av := [.ref 80, .int a1, .int a2]) (by decide +kernel) (Nat.le_of_ble_eq_true rfl) (fun C w h hm hx hn => sX1_gatherFacts_0 h hm hx (bX1_gatherFacts_13 h hm hx (bX1_gatherFacts_40 h hm hx) FU)) ((lX1_gatherFacts_0 _ _ _).trans hG) (Nat.le_of_ble_eq_true rfl), Or.inl ⟨80, _, 1, _, _, rfl, by decide, rfl, qCk_1, rfl⟩⟩
  · cases hG
theorem ffp_X5_15_0 {r : Nat} (hr : qpol r = true) : qFd RX5 15 r 5 1 3 := by
  rcases qpol_cases hr with rfl | rfl | rfl | rfl | rfl <;> exact ⟨mf_X5_15, rfl, by decide, rfl⟩
theorem fp_hn_0 {r : Nat} (hr : qpol r = true) : r < 155 := by
  rcases qpol_cases hr with rfl | rfl | rfl | rfl | rfl <;> decide
theorem fp_fin_1 {r : Nat} (hr : qpol r = true) : qfin r 1 = some (r + 2) := by
  rcases qpol_cases hr with rfl | rfl | rfl | rfl | rfl <;> rfl
theorem fp_hs_2 {r : Nat} (hr : qpol r = true) : qsh (r + 2) = (1, 32) := by
  rcases qpol_cases hr with rfl | rfl | rfl | rfl | rfl <;> rfl
theorem fp_hn_2 {r : Nat} (hr : qpol r = true) : r + 2 < 155 := by
  rcases qpol_cases hr with rfl | rfl | rfl | rfl | rfl <;> decide
theorem ml_X5_34 : Jvm.Cond.methodLinkNest RX5 34 yX11_within "ParentEve" ∈ qTw := qm5 (List.mem_of_getElem? (i := 181) (by decide +kernel)) (by decide +kernel)
theorem kd_X5_34 {C : qCx} {w : qWp} {cc : ByteArray} {nL dp n0 n1 pc : Nat} (h : qOk C w RX5 cc nL dp n0 n1) (d : decode cc pc = .ok (.invokestatic 34, 3)) : qCallOk C w nL dp n0 n1 pc 3 0 yX11_within (.code yX11_within cX11_within 3 (some .boolean)) := kindSN h d ml_X5_34 im_X11_within in_ParentEve co_X11_within yk_X11_within (by decide)
theorem ffp_X5_18_0 {r : Nat} (hr : qpol r = true) : qFd RX5 18 r 5 2 3 := by
  rcases qpol_cases hr with rfl | rfl | rfl | rfl | rfl <;> exact ⟨mf_X5_18, rfl, by decide, rfl⟩
theorem fp_fin_2 {r : Nat} (hr : qpol r = true) : qfin r 2 = some (r + 3) := by
  rcases qpol_cases hr with rfl | rfl | rfl | rfl | rfl <;> rfl
theorem fp_hs_3 {r : Nat} (hr : qpol r = true) : qsh (r + 3) = (1, 32) := by
  rcases qpol_cases hr with rfl | rfl | rfl | rfl | rfl <;> rfl
theorem fp_hn_3 {r : Nat} (hr : qpol r = true) : r + 3 < 155 := by
  rcases qpol_cases hr with rfl | rfl | rfl | rfl | rfl <;> decide
theorem ffp_X5_21_0 {r : Nat} (hr : qpol r = true) : qFd RX5 21 r 5 3 3 := by
  rcases qpol_cases hr with rfl | rfl | rfl | rfl | rfl <;> exact ⟨mf_X5_21, rfl, by decide, rfl⟩
theorem fp_fin_3 {r : Nat} (hr : qpol r = true) : qfin r 3 = some (r + 4) := by
  rcases qpol_cases hr with rfl | rfl | rfl | rfl | rfl <;> rfl
theorem fp_hs_4 {r : Nat} (hr : qpol r = true) : qsh (r + 4) = (1, 32) := by
  rcases qpol_cases hr with rfl | rfl | rfl | rfl | rfl <;> rfl
theorem fp_hn_4 {r : Nat} (hr : qpol r = true) : r + 4 < 155 := by
  rcases qpol_cases hr with rfl | rfl | rfl | rfl | rfl <;> decide
theorem dX5_holds_0 : decode cX5_holds 0 = .ok (.aload_n 0, 1) := by decide +kernel
theorem dX5_holds_1 : decode cX5_holds 1 = .ok (.getfield 15, 3) := by decide +kernel
theorem dX5_holds_4 : decode cX5_holds 4 = .ok (.iload_n 1, 1) := by decide +kernel
theorem dX5_holds_5 : decode cX5_holds 5 = .ok (.iaload, 1) := by decide +kernel
theorem dX5_holds_6 : decode cX5_holds 6 = .ok (.iconst 0, 1) := by decide +kernel
theorem dX5_holds_7 : decode cX5_holds 7 = .ok (.aload_n 2, 1) := by decide +kernel
theorem dX5_holds_8 : decode cX5_holds 8 = .ok (.arraylength, 1) := by decide +kernel
theorem dX5_holds_9 : decode cX5_holds 9 = .ok (.iconst 1, 1) := by decide +kernel
theorem dX5_holds_10 : decode cX5_holds 10 = .ok (.isub, 1) := by decide +kernel
theorem dX5_holds_11 : decode cX5_holds 11 = .ok (.invokestatic 34, 3) := by decide +kernel
theorem dX5_holds_14 : decode cX5_holds 14 = .ok (.ifCond .eq 14, 3) := by decide +kernel
theorem dX5_holds_17 : decode cX5_holds 17 = .ok (.aload_n 2, 1) := by decide +kernel
theorem dX5_holds_18 : decode cX5_holds 18 = .ok (.aload_n 0, 1) := by decide +kernel
theorem dX5_holds_19 : decode cX5_holds 19 = .ok (.getfield 15, 3) := by decide +kernel
theorem dX5_holds_22 : decode cX5_holds 22 = .ok (.iload_n 1, 1) := by decide +kernel
theorem dX5_holds_23 : decode cX5_holds 23 = .ok (.iaload, 1) := by decide +kernel
theorem dX5_holds_24 : decode cX5_holds 24 = .ok (.iaload, 1) := by decide +kernel
theorem dX5_holds_25 : decode cX5_holds 25 = .ok (.goto 4, 3) := by decide +kernel
theorem dX5_holds_28 : decode cX5_holds 28 = .ok (.iconst 0, 1) := by decide +kernel
theorem dX5_holds_29 : decode cX5_holds 29 = .ok (.istore_n 3, 1) := by decide +kernel
theorem dX5_holds_30 : decode cX5_holds 30 = .ok (.aload_n 0, 1) := by decide +kernel
theorem dX5_holds_31 : decode cX5_holds 31 = .ok (.getfield 18, 3) := by decide +kernel
theorem dX5_holds_34 : decode cX5_holds 34 = .ok (.iload_n 1, 1) := by decide +kernel
theorem dX5_holds_35 : decode cX5_holds 35 = .ok (.iaload, 1) := by decide +kernel
theorem dX5_holds_36 : decode cX5_holds 36 = .ok (.ifCond .ne 19, 3) := by decide +kernel
theorem dX5_holds_39 : decode cX5_holds 39 = .ok (.iload_n 3, 1) := by decide +kernel
theorem dX5_holds_40 : decode cX5_holds 40 = .ok (.aload_n 0, 1) := by decide +kernel
theorem dX5_holds_41 : decode cX5_holds 41 = .ok (.getfield 21, 3) := by decide +kernel
theorem dX5_holds_44 : decode cX5_holds 44 = .ok (.iload_n 1, 1) := by decide +kernel
theorem dX5_holds_45 : decode cX5_holds 45 = .ok (.iaload, 1) := by decide +kernel
theorem dX5_holds_46 : decode cX5_holds 46 = .ok (.if_icmp .le 7, 3) := by decide +kernel
theorem dX5_holds_49 : decode cX5_holds 49 = .ok (.iconst 1, 1) := by decide +kernel
theorem dX5_holds_50 : decode cX5_holds 50 = .ok (.goto 4, 3) := by decide +kernel
theorem dX5_holds_53 : decode cX5_holds 53 = .ok (.iconst 0, 1) := by decide +kernel
theorem dX5_holds_54 : decode cX5_holds 54 = .ok (.ireturn, 1) := by decide +kernel
theorem dX5_holds_55 : decode cX5_holds 55 = .ok (.aload_n 0, 1) := by decide +kernel
theorem dX5_holds_56 : decode cX5_holds 56 = .ok (.getfield 18, 3) := by decide +kernel
theorem dX5_holds_59 : decode cX5_holds 59 = .ok (.iload_n 1, 1) := by decide +kernel
theorem dX5_holds_60 : decode cX5_holds 60 = .ok (.iaload, 1) := by decide +kernel
theorem dX5_holds_61 : decode cX5_holds 61 = .ok (.iconst 1, 1) := by decide +kernel
theorem dX5_holds_62 : decode cX5_holds 62 = .ok (.if_icmp .ne 21, 3) := by decide +kernel
theorem dX5_holds_65 : decode cX5_holds 65 = .ok (.iload_n 3, 1) := by decide +kernel
theorem dX5_holds_66 : decode cX5_holds 66 = .ok (.aload_n 0, 1) := by decide +kernel
theorem dX5_holds_67 : decode cX5_holds 67 = .ok (.getfield 21, 3) := by decide +kernel
theorem dX5_holds_70 : decode cX5_holds 70 = .ok (.iload_n 1, 1) := by decide +kernel
theorem dX5_holds_71 : decode cX5_holds 71 = .ok (.iaload, 1) := by decide +kernel
theorem dX5_holds_72 : decode cX5_holds 72 = .ok (.if_icmp .ge 7, 3) := by decide +kernel
theorem dX5_holds_75 : decode cX5_holds 75 = .ok (.iconst 1, 1) := by decide +kernel
theorem dX5_holds_76 : decode cX5_holds 76 = .ok (.goto 22, 3) := by decide +kernel
theorem dX5_holds_79 : decode cX5_holds 79 = .ok (.iconst 0, 1) := by decide +kernel
theorem dX5_holds_80 : decode cX5_holds 80 = .ok (.goto 18, 3) := by decide +kernel
theorem dX5_holds_83 : decode cX5_holds 83 = .ok (.iload_n 3, 1) := by decide +kernel
theorem dX5_holds_84 : decode cX5_holds 84 = .ok (.aload_n 0, 1) := by decide +kernel
theorem dX5_holds_85 : decode cX5_holds 85 = .ok (.getfield 21, 3) := by decide +kernel
theorem dX5_holds_88 : decode cX5_holds 88 = .ok (.iload_n 1, 1) := by decide +kernel
theorem dX5_holds_89 : decode cX5_holds 89 = .ok (.iaload, 1) := by decide +kernel
theorem dX5_holds_90 : decode cX5_holds 90 = .ok (.if_icmp .ne 7, 3) := by decide +kernel
theorem dX5_holds_93 : decode cX5_holds 93 = .ok (.iconst 1, 1) := by decide +kernel
theorem dX5_holds_94 : decode cX5_holds 94 = .ok (.goto 4, 3) := by decide +kernel
theorem dX5_holds_97 : decode cX5_holds 97 = .ok (.iconst 0, 1) := by decide +kernel
theorem dX5_holds_98 : decode cX5_holds 98 = .ok (.ireturn, 1) := by decide +kernel
noncomputable def tX5_holds_60 (r : Nat) : qT (Int32 × qM) :=
  eZ
noncomputable def wX5_holds_60 (r : Nat) (k : Int32 → qM → Option (Int32 × qM)) : qT (Int32 × qM) := fun lo st m => match lo, st with
  | [_, _, _, _], [.int s0] => k s0 m
  | _, _ => none
set_option maxRecDepth 20000 in
theorem sX5_holds_60 {C : qCx} {w : qWp} {r : Nat} (h : qOk C w RX5 cX5_holds 4 1 155 155) (hm : qMt C (some .boolean)) (hx : qNx C) (hr : qpol r = true) : qSnd C w 4 155 (qQf C w 155 155 jI) qfin 155 98 (tX5_holds_60 r) :=
  zZ (pc := 98) h hm (Nat.le_refl _) dX5_holds_98
set_option maxRecDepth 20000 in
theorem lX5_holds_60 (r : Nat) (hr : qpol r = true) (s0 : Int32) (m : qM) : tX5_holds_60 r [none, none, none, none] [(.int s0)] m = fX5_holds_60 r s0 m := by
  rcases qpol_cases hr with rfl | rfl | rfl | rfl | rfl <;> rfl
theorem bX5_holds_60 {C : qCx} {w : qWp} {r : Nat} (h : qOk C w RX5 cX5_holds 4 1 155 155) (hm : qMt C (some .boolean)) (hx : qNx C) (hr : qpol r = true) : qSnd C w 4 155 (qQf C w 155 155 jI) qfin 155 98 (wX5_holds_60 r (fX5_holds_60 r)) :=
  qSnd_of (fun lo st m x hr0 => by
    unfold wX5_holds_60 at hr0
    split at hr0
    · exact ⟨_, (qsub_n (qsub_n (qsub_n (qsub_n qsub_nil)))), (lX5_holds_60 r hr _ _).trans hr0⟩
    · cases hr0) (sX5_holds_60 h hm hx hr)
noncomputable def tX5_holds_34 (r : Nat) : qT (Int32 × qM) :=
  eZ
noncomputable def wX5_holds_34 (r : Nat) (k : Int32 → qM → Option (Int32 × qM)) : qT (Int32 × qM) := fun lo st m => match lo, st with
  | [_, _, _, _], [.int s0] => k s0 m
  | _, _ => none
set_option maxRecDepth 20000 in
theorem sX5_holds_34 {C : qCx} {w : qWp} {r : Nat} (h : qOk C w RX5 cX5_holds 4 1 155 155) (hm : qMt C (some .boolean)) (hx : qNx C) (hr : qpol r = true) : qSnd C w 4 155 (qQf C w 155 155 jI) qfin 155 54 (tX5_holds_34 r) :=
  zZ (pc := 54) h hm (Nat.le_refl _) dX5_holds_54
set_option maxRecDepth 20000 in
theorem lX5_holds_34 (r : Nat) (hr : qpol r = true) (s0 : Int32) (m : qM) : tX5_holds_34 r [none, none, none, none] [(.int s0)] m = fX5_holds_34 r s0 m := by
  rcases qpol_cases hr with rfl | rfl | rfl | rfl | rfl <;> rfl
theorem bX5_holds_34 {C : qCx} {w : qWp} {r : Nat} (h : qOk C w RX5 cX5_holds 4 1 155 155) (hm : qMt C (some .boolean)) (hx : qNx C) (hr : qpol r = true) : qSnd C w 4 155 (qQf C w 155 155 jI) qfin 155 54 (wX5_holds_34 r (fX5_holds_34 r)) :=
  qSnd_of (fun lo st m x hr0 => by
    unfold wX5_holds_34 at hr0
    split at hr0
    · exact ⟨_, (qsub_n (qsub_n (qsub_n (qsub_n qsub_nil)))), (lX5_holds_34 r hr _ _).trans hr0⟩
    · cases hr0) (sX5_holds_34 h hm hx hr)
noncomputable def tX5_holds_19 (r : Nat) (j60 : qT (Int32 × qM)) (j34 : qT (Int32 × qM)) : qT (Int32 × qM) :=
  oSi 3 (oLa 0 (oGf r 2 (r + 3) (oLi 1 (oAi (r + 3) 32 (oEq (oLi 3 (oLa 0 (oGf r 3 (r + 4) (oLi 1 (oAi (r + 4) 32 (oCLe (oC (.int (0 : Int32)) (j34)) (oC (.int (1 : Int32)) (j34)))))))) (oLa 0 (oGf r 2 (r + 3) (oLi 1 (oAi (r + 3) 32 (oC (.int (1 : Int32)) (oCEq (oLi 3 (oLa 0 (oGf r 3 (r + 4) (oLi 1 (oAi (r + 4) 32 (oCGe (oC (.int (0 : Int32)) (j60)) (oC (.int (1 : Int32)) (j60)))))))) (oLi 3 (oLa 0 (oGf r 3 (r + 4) (oLi 1 (oAi (r + 4) 32 (oCEq (oC (.int (1 : Int32)) (j60)) (oC (.int (0 : Int32)) (j60)))))))))))))))))))
noncomputable def wX5_holds_19 (r : Nat) (k : Int32 → Int32 → qM → Option (Int32 × qM)) : qT (Int32 × qM) := fun lo st m => match lo, st with
  | [some (.ref q0), some (.int a1), _, _], [.int s0] => bif Nat.beq q0 r then k a1 s0 m else none
  | _, _ => none
set_option maxRecDepth 20000 in
theorem sX5_holds_19 {C : qCx} {w : qWp} {r : Nat} (h : qOk C w RX5 cX5_holds 4 1 155 155) (hm : qMt C (some .boolean)) (hx : qNx C) (hr : qpol r = true) {j60 : qT (Int32 × qM)} {j34 : qT (Int32 × qM)} (k60 : qSnd C w 4 155 (qQf C w 155 155 jI) qfin 155 98 j60) (k34 : qSnd C w 4 155 (qQf C w 155 155 jI) qfin 155 54 j34) : qSnd C w 4 155 (qQf C w 155 155 jI) qfin 155 29 (tX5_holds_19 r j60 j34) :=
  cSi (pc := 29) h dX5_holds_29 rfl (cLa (pc := 30) h dX5_holds_30 rfl (gGf (pc := 31) h dX5_holds_31 (ffp_X5_18_0 hr) (fp_hn_0 hr) (by decide) (fp_fin_2 hr) (cLi (pc := 34) h dX5_holds_34 rfl (rAi (pc := 35) h dX5_holds_35 (fp_hs_3 hr) (fp_hn_3 hr) (by decide) (jNe (pc := 36) h dX5_holds_36 rfl (cLa (pc := 55) h dX5_holds_55 rfl (gGf (pc := 56) h dX5_holds_56 (ffp_X5_18_0 hr) (fp_hn_0 hr) (by decide) (fp_fin_2 hr) (cLi (pc := 59) h dX5_holds_59 rfl (rAi (pc := 60) h dX5_holds_60 (fp_hs_3 hr) (fp_hn_3 hr) (by decide) (cC (pc := 61) h dX5_holds_61 rfl (jCNe (pc := 62) h dX5_holds_62 rfl (cLi (pc := 83) h dX5_holds_83 rfl (cLa (pc := 84) h dX5_holds_84 rfl (gGf (pc := 85) h dX5_holds_85 (ffp_X5_21_0 hr) (fp_hn_0 hr) (by decide) (fp_fin_3 hr) (cLi (pc := 88) h dX5_holds_88 rfl (rAi (pc := 89) h dX5_holds_89 (fp_hs_4 hr) (fp_hn_4 hr) (by decide) (jCNe (pc := 90) h dX5_holds_90 rfl (cC (pc := 97) h dX5_holds_97 rfl (k60)) (cC (pc := 93) h dX5_holds_93 rfl (jGo (pc := 94) h dX5_holds_94 rfl (k60))))))))) (cLi (pc := 65) h dX5_holds_65 rfl (cLa (pc := 66) h dX5_holds_66 rfl (gGf (pc := 67) h dX5_holds_67 (ffp_X5_21_0 hr) (fp_hn_0 hr) (by decide) (fp_fin_3 hr) (cLi (pc := 70) h dX5_holds_70 rfl (rAi (pc := 71) h dX5_holds_71 (fp_hs_4 hr) (fp_hn_4 hr) (by decide) (jCGe (pc := 72) h dX5_holds_72 rfl (cC (pc := 79) h dX5_holds_79 rfl (jGo (pc := 80) h dX5_holds_80 rfl (k60))) (cC (pc := 75) h dX5_holds_75 rfl (jGo (pc := 76) h dX5_holds_76 rfl (k60))))))))))))))) (cLi (pc := 39) h dX5_holds_39 rfl (cLa (pc := 40) h dX5_holds_40 rfl (gGf (pc := 41) h dX5_holds_41 (ffp_X5_21_0 hr) (fp_hn_0 hr) (by decide) (fp_fin_3 hr) (cLi (pc := 44) h dX5_holds_44 rfl (rAi (pc := 45) h dX5_holds_45 (fp_hs_4 hr) (fp_hn_4 hr) (by decide) (jCLe (pc := 46) h dX5_holds_46 rfl (cC (pc := 53) h dX5_holds_53 rfl (k34)) (cC (pc := 49) h dX5_holds_49 rfl (jGo (pc := 50) h dX5_holds_50 rfl (k34))))))))))))))
set_option maxRecDepth 20000 in
theorem lX5_holds_19 (r : Nat) (hr : qpol r = true) (a1 : Int32) (s0 : Int32) (m : qM) : tX5_holds_19 r (wX5_holds_60 r (fX5_holds_60 r)) (wX5_holds_34 r (fX5_holds_34 r)) [some (.ref r), some (.int a1), none, none] [(.int s0)] m = fX5_holds_19 r a1 s0 m := by
  rcases qpol_cases hr with rfl | rfl | rfl | rfl | rfl <;> rfl
theorem bX5_holds_19 {C : qCx} {w : qWp} {r : Nat} (h : qOk C w RX5 cX5_holds 4 1 155 155) (hm : qMt C (some .boolean)) (hx : qNx C) (hr : qpol r = true) : qSnd C w 4 155 (qQf C w 155 155 jI) qfin 155 29 (wX5_holds_19 r (fX5_holds_19 r)) :=
  qSnd_of (fun lo st m x hr0 => by
    unfold wX5_holds_19 at hr0
    split at hr0
    · have he := (qbeq hr0).1
      have hr1 := (qbeq hr0).2
      rw [he]
      exact ⟨_, (qsub_e (qsub_e (qsub_n (qsub_n qsub_nil)))), (lX5_holds_19 r hr _ _ _).trans hr1⟩
    · cases hr0) (sX5_holds_19 h hm hx hr (bX5_holds_60 h hm hx hr) (bX5_holds_34 h hm hx hr))
noncomputable def tX5_holds_0 (r : Nat) (j19 : qT (Int32 × qM)) : qT (Int32 × qM) :=
  oLa 0 (oGf r 1 (r + 2) (oLi 1 (oAi (r + 2) 32 (oC (.int (0 : Int32)) (oLa 2 (oLen 84 6 (oC (.int (1 : Int32)) (o2 (· - ·) (oCi GX11_within 3 (oEq (oC (.int (0 : Int32)) (j19)) (oLa 2 (oLa 0 (oGf r 1 (r + 2) (oLi 1 (oAi (r + 2) 32 (oAi 84 6 (j19)))))))))))))))))
set_option maxRecDepth 20000 in
theorem sX5_holds_0 {C : qCx} {w : qWp} {r : Nat} (h : qOk C w RX5 cX5_holds 4 1 155 155) (hm : qMt C (some .boolean)) (hx : qNx C) (hr : qpol r = true) {j19 : qT (Int32 × qM)} (k19 : qSnd C w 4 155 (qQf C w 155 155 jI) qfin 155 29 j19) : qSnd C w 4 155 (qQf C w 155 155 jI) qfin 155 0 (tX5_holds_0 r j19) :=
  cLa (pc := 0) h dX5_holds_0 rfl (gGf (pc := 1) h dX5_holds_1 (ffp_X5_15_0 hr) (fp_hn_0 hr) (by decide) (fp_fin_1 hr) (cLi (pc := 4) h dX5_holds_4 rfl (rAi (pc := 5) h dX5_holds_5 (fp_hs_2 hr) (fp_hn_2 hr) (by decide) (cC (pc := 6) h dX5_holds_6 rfl (cLa (pc := 7) h dX5_holds_7 rfl (rLen (pc := 8) h dX5_holds_8 rfl (Nat.le_of_ble_eq_true rfl) (Nat.le_of_ble_eq_true rfl) (cC (pc := 9) h dX5_holds_9 rfl (aSub (pc := 10) h dX5_holds_10 (kCi (pc := 11) h (kd_X5_34 h dX5_holds_11) spX11_within (by decide) (by decide) (by decide) (by decide) (jEq (pc := 14) h dX5_holds_14 rfl (cC (pc := 28) h dX5_holds_28 rfl (k19)) (cLa (pc := 17) h dX5_holds_17 rfl (cLa (pc := 18) h dX5_holds_18 rfl (gGf (pc := 19) h dX5_holds_19 (ffp_X5_15_0 hr) (fp_hn_0 hr) (by decide) (fp_fin_1 hr) (cLi (pc := 22) h dX5_holds_22 rfl (rAi (pc := 23) h dX5_holds_23 (fp_hs_2 hr) (fp_hn_2 hr) (by decide) (rAi (pc := 24) h dX5_holds_24 rfl (Nat.le_of_ble_eq_true rfl) (Nat.le_of_ble_eq_true rfl) (jGo (pc := 25) h dX5_holds_25 rfl (k19))))))))))))))))))
set_option maxRecDepth 20000 in
theorem lX5_holds_0 (r : Nat) (hr : qpol r = true) (a1 : Int32) (m : qM) : tX5_holds_0 r (wX5_holds_19 r (fX5_holds_19 r)) [some (.ref r), some (.int a1), some (.ref 84), none] [] m = fX5_holds_0 r a1 m := by
  rcases qpol_cases hr with rfl | rfl | rfl | rfl | rfl <;> rfl
noncomputable def GX5_holds : qG Int32 := fun av m => match av with
  | [.ref r, .int a1, .ref 84] => bif qpol r then fX5_holds r a1 m else none
  | _ => none
theorem spX5_holds : qSpI yX5_holds (.code yX5_holds cX5_holds 4 (some .boolean)) 1 qfin 155 155 1 GX5_holds := by
  intro av m x m' hG
  unfold GX5_holds at hG
  split at hG
  · rename_i r a1
    obtain ⟨hr, hG⟩ := qbt hG
    rw [fX5_holds_d] at hG
    exact ⟨qmeet (J := jI) (r := (x, m')) (av := [.ref r, .int a1, .ref 84]) (by decide +kernel) (Nat.le_of_ble_eq_true rfl) (fun C w h hm hx hn => sX5_holds_0 h hm hx hr (bX5_holds_19 h hm hx hr)) ((lX5_holds_0 _ hr _ _).trans hG) (Nat.le_of_ble_eq_true rfl), qRc_pol hr rfl⟩
  · cases hG
theorem ffp_X5_30_0 {r : Nat} (hr : qpol r = true) : qFd RX5 30 r 5 6 0 := by
  rcases qpol_cases hr with rfl | rfl | rfl | rfl | rfl <;> exact ⟨mf_X5_30, rfl, by decide, rfl⟩
theorem ffp_X5_9_0 {r : Nat} (hr : qpol r = true) : qFd RX5 9 r 5 0 3 := by
  rcases qpol_cases hr with rfl | rfl | rfl | rfl | rfl <;> exact ⟨mf_X5_9, rfl, by decide, rfl⟩
theorem fp_fin_0 {r : Nat} (hr : qpol r = true) : qfin r 0 = some (r + 1) := by
  rcases qpol_cases hr with rfl | rfl | rfl | rfl | rfl <;> rfl
theorem fp_hs_1 {r : Nat} (hr : qpol r = true) : qsh (r + 1) = (1, 8) := by
  rcases qpol_cases hr with rfl | rfl | rfl | rfl | rfl <;> rfl
theorem fp_hn_1 {r : Nat} (hr : qpol r = true) : r + 1 < 155 := by
  rcases qpol_cases hr with rfl | rfl | rfl | rfl | rfl <;> decide
theorem im_X5_holds : Jvm.Cond.instanceMethod yX5_holds ∈ qTw := qm5 (List.mem_of_getElem? (i := 179) (by decide +kernel)) (by decide +kernel)
theorem se_X5_holds : Jvm.Cond.selects yX5_holds.cls yX5_holds yX5_holds ∈ qTw := List.mem_filter.mpr ⟨List.mem_append_left _ (List.mem_of_getElem? (i := 24) (by decide +kernel)), rfl⟩
theorem co_X5_holds : Jvm.Cond.code yX5_holds cX5_holds 4 (some .boolean) ∈ qTw := qm5 (List.mem_of_getElem? (i := 180) (by decide +kernel)) (by decide +kernel)
theorem yk_X5_holds : qYk yX5_holds 2 := ⟨⟨by decide +kernel, by decide +kernel⟩, by decide +kernel⟩
theorem ml_X5_38 : Jvm.Cond.methodLink RX5 38 yX5_holds ∈ qTw := qm5 (List.mem_of_getElem? (i := 177) (by decide +kernel)) (by decide +kernel)
theorem kd_X5_38 {C : qCx} {w : qWp} {cc : ByteArray} {nL dp n0 n1 pc : Nat} (h : qOk C w RX5 cc nL dp n0 n1) (d : decode cc pc = .ok (.invokevirtual 38, 3)) : qCallOk C w nL dp n0 n1 pc 3 1 yX5_holds (.code yX5_holds cX5_holds 4 (some .boolean)) := kindV h d ml_X5_38 im_X5_holds se_X5_holds in_ParentEve_Policy co_X5_holds yk_X5_holds (by decide)
theorem dX5_lineThatHolds_0 : decode cX5_lineThatHolds 0 = .ok (.iconst 0, 1) := by decide +kernel
theorem dX5_lineThatHolds_1 : decode cX5_lineThatHolds 1 = .ok (.istore_n 2, 1) := by decide +kernel
theorem dX5_lineThatHolds_2 : decode cX5_lineThatHolds 2 = .ok (.iload_n 2, 1) := by decide +kernel
theorem dX5_lineThatHolds_3 : decode cX5_lineThatHolds 3 = .ok (.aload_n 0, 1) := by decide +kernel
theorem dX5_lineThatHolds_4 : decode cX5_lineThatHolds 4 = .ok (.getfield 30, 3) := by decide +kernel
theorem dX5_lineThatHolds_7 : decode cX5_lineThatHolds 7 = .ok (.if_icmp .ge 53, 3) := by decide +kernel
theorem dX5_lineThatHolds_10 : decode cX5_lineThatHolds 10 = .ok (.iconst 1, 1) := by decide +kernel
theorem dX5_lineThatHolds_11 : decode cX5_lineThatHolds 11 = .ok (.istore_n 3, 1) := by decide +kernel
theorem dX5_lineThatHolds_12 : decode cX5_lineThatHolds 12 = .ok (.iconst 0, 1) := by decide +kernel
theorem dX5_lineThatHolds_13 : decode cX5_lineThatHolds 13 = .ok (.istore 4, 2) := by decide +kernel
theorem dX5_lineThatHolds_15 : decode cX5_lineThatHolds 15 = .ok (.iload_n 3, 1) := by decide +kernel
theorem dX5_lineThatHolds_16 : decode cX5_lineThatHolds 16 = .ok (.ifCond .eq 32, 3) := by decide +kernel
theorem dX5_lineThatHolds_19 : decode cX5_lineThatHolds 19 = .ok (.iload 4, 2) := by decide +kernel
theorem dX5_lineThatHolds_21 : decode cX5_lineThatHolds 21 = .ok (.aload_n 0, 1) := by decide +kernel
theorem dX5_lineThatHolds_22 : decode cX5_lineThatHolds 22 = .ok (.getfield 9, 3) := by decide +kernel
theorem dX5_lineThatHolds_25 : decode cX5_lineThatHolds 25 = .ok (.iload_n 2, 1) := by decide +kernel
theorem dX5_lineThatHolds_26 : decode cX5_lineThatHolds 26 = .ok (.iaload, 1) := by decide +kernel
theorem dX5_lineThatHolds_27 : decode cX5_lineThatHolds 27 = .ok (.if_icmp .ge 21, 3) := by decide +kernel
theorem dX5_lineThatHolds_30 : decode cX5_lineThatHolds 30 = .ok (.aload_n 0, 1) := by decide +kernel
theorem dX5_lineThatHolds_31 : decode cX5_lineThatHolds 31 = .ok (.iload_n 2, 1) := by decide +kernel
theorem dX5_lineThatHolds_32 : decode cX5_lineThatHolds 32 = .ok (.iconst 4, 1) := by decide +kernel
theorem dX5_lineThatHolds_33 : decode cX5_lineThatHolds 33 = .ok (.imul, 1) := by decide +kernel
theorem dX5_lineThatHolds_34 : decode cX5_lineThatHolds 34 = .ok (.iload 4, 2) := by decide +kernel
theorem dX5_lineThatHolds_36 : decode cX5_lineThatHolds 36 = .ok (.iadd, 1) := by decide +kernel
theorem dX5_lineThatHolds_37 : decode cX5_lineThatHolds 37 = .ok (.aload_n 1, 1) := by decide +kernel
theorem dX5_lineThatHolds_38 : decode cX5_lineThatHolds 38 = .ok (.invokevirtual 38, 3) := by decide +kernel
theorem dX5_lineThatHolds_41 : decode cX5_lineThatHolds 41 = .ok (.istore_n 3, 1) := by decide +kernel
theorem dX5_lineThatHolds_42 : decode cX5_lineThatHolds 42 = .ok (.iinc 4 1, 3) := by decide +kernel
theorem dX5_lineThatHolds_45 : decode cX5_lineThatHolds 45 = .ok (.goto (-30), 3) := by decide +kernel
theorem dX5_lineThatHolds_48 : decode cX5_lineThatHolds 48 = .ok (.iload_n 3, 1) := by decide +kernel
theorem dX5_lineThatHolds_49 : decode cX5_lineThatHolds 49 = .ok (.ifCond .eq 5, 3) := by decide +kernel
theorem dX5_lineThatHolds_52 : decode cX5_lineThatHolds 52 = .ok (.iload_n 2, 1) := by decide +kernel
theorem dX5_lineThatHolds_53 : decode cX5_lineThatHolds 53 = .ok (.ireturn, 1) := by decide +kernel
theorem dX5_lineThatHolds_54 : decode cX5_lineThatHolds 54 = .ok (.iinc 2 1, 3) := by decide +kernel
theorem dX5_lineThatHolds_57 : decode cX5_lineThatHolds 57 = .ok (.goto (-55), 3) := by decide +kernel
theorem dX5_lineThatHolds_60 : decode cX5_lineThatHolds 60 = .ok (.iconst (-1), 1) := by decide +kernel
theorem dX5_lineThatHolds_61 : decode cX5_lineThatHolds 61 = .ok (.ireturn, 1) := by decide +kernel
noncomputable def tX5_lineThatHolds_10 (r : Nat) (j29 : qT (Int32 × qM)) (j10 : qT (Int32 × qM)) : qT (Int32 × qM) :=
  oLi 3 (oEq (j29) (oLi 4 (oLa 0 (oGf r 0 (r + 1) (oLi 2 (oAi (r + 1) 8 (oCGe (j29) (oLa 0 (oLi 2 (oC (.int (4 : Int32)) (o2 (· * ·) (oLi 4 (o2 (· + ·) (oLa 1 (oCi GX5_holds 3 (oSi 3 (oInc 4 (1 : Int32) (j10))))))))))))))))))
noncomputable def wX5_lineThatHolds_10 (r : Nat) (k : Int32 → Int32 → Int32 → qM → Option (Int32 × qM)) : qT (Int32 × qM) := fun lo st m => match lo, st with
  | [some (.ref q0), some (.ref 84), some (.int a2), some (.int a3), some (.int a4)], [] => bif Nat.beq q0 r then k a2 a3 a4 m else none
  | _, _ => none
noncomputable def wX5_lineThatHolds_29 (r : Nat) (k : Int32 → Int32 → qM → Option (Int32 × qM)) : qT (Int32 × qM) := fun lo st m => match lo, st with
  | [some (.ref q0), some (.ref 84), some (.int a2), some (.int a3), _], [] => bif Nat.beq q0 r then k a2 a3 m else none
  | _, _ => none
set_option maxRecDepth 20000 in
theorem sX5_lineThatHolds_10 {C : qCx} {w : qWp} {r : Nat} (h : qOk C w RX5 cX5_lineThatHolds 5 2 155 155) (hm : qMt C (some .int)) (hx : qNx C) (hr : qpol r = true) {j29 : qT (Int32 × qM)} {j10 : qT (Int32 × qM)} (k29 : qSnd C w 5 155 (qQf C w 155 155 jI) qfin 155 48 j29) (k10 : qSnd C w 5 155 (qQf C w 155 155 jI) qfin 155 15 j10) : qSnd C w 5 155 (qQf C w 155 155 jI) qfin 155 15 (tX5_lineThatHolds_10 r j29 j10) :=
  cLi (pc := 15) h dX5_lineThatHolds_15 rfl (jEq (pc := 16) h dX5_lineThatHolds_16 rfl (k29) (cLI (pc := 19) h dX5_lineThatHolds_19 (cLa (pc := 21) h dX5_lineThatHolds_21 rfl (gGf (pc := 22) h dX5_lineThatHolds_22 (ffp_X5_9_0 hr) (fp_hn_0 hr) (by decide) (fp_fin_0 hr) (cLi (pc := 25) h dX5_lineThatHolds_25 rfl (rAi (pc := 26) h dX5_lineThatHolds_26 (fp_hs_1 hr) (fp_hn_1 hr) (by decide) (jCGe (pc := 27) h dX5_lineThatHolds_27 rfl (k29) (cLa (pc := 30) h dX5_lineThatHolds_30 rfl (cLi (pc := 31) h dX5_lineThatHolds_31 rfl (cC (pc := 32) h dX5_lineThatHolds_32 rfl (aMul (pc := 33) h dX5_lineThatHolds_33 (cLI (pc := 34) h dX5_lineThatHolds_34 (aAdd (pc := 36) h dX5_lineThatHolds_36 (cLa (pc := 37) h dX5_lineThatHolds_37 rfl (kCi (pc := 38) h (kd_X5_38 h dX5_lineThatHolds_38) spX5_holds (by decide) (by decide) (by decide) (by decide) (cSi (pc := 41) h dX5_lineThatHolds_41 rfl (cInc (pc := 42) h dX5_lineThatHolds_42 rfl (jGo (pc := 45) h dX5_lineThatHolds_45 rfl (k10)))))))))))))))))))
set_option maxRecDepth 20000 in
theorem lX5_lineThatHolds_10 (r : Nat) (hr : qpol r = true) (k29 : Int32 → Int32 → qM → Option (Int32 × qM)) (n : Nat) (a2 : Int32) (a3 : Int32) (a4 : Int32) (m : qM) : tX5_lineThatHolds_10 r (wX5_lineThatHolds_29 r k29) (wX5_lineThatHolds_10 r ((fX5_lineThatHolds_10 r k29 n))) [some (.ref r), some (.ref 84), some (.int a2), some (.int a3), some (.int a4)] [] m = fX5_lineThatHolds_10 r k29 (n + 1) a2 a3 a4 m := by
  rcases qpol_cases hr with rfl | rfl | rfl | rfl | rfl <;> rfl
theorem bX5_lineThatHolds_10 {C : qCx} {w : qWp} {r : Nat} (h : qOk C w RX5 cX5_lineThatHolds 5 2 155 155) (hm : qMt C (some .int)) (hx : qNx C) (hr : qpol r = true) {k29 : Int32 → Int32 → qM → Option (Int32 × qM)} (h29 : qSnd C w 5 155 (qQf C w 155 155 jI) qfin 155 48 (wX5_lineThatHolds_29 r k29)) : ∀ n : Nat, qSnd C w 5 155 (qQf C w 155 155 jI) qfin 155 15 (wX5_lineThatHolds_10 r (fX5_lineThatHolds_10 r k29 n))
  | 0 => qSnd_of0 (fun lo st m x hr0 => by
    unfold wX5_lineThatHolds_10 at hr0
    split at hr0
    · cases (qbeq hr0).2
    · cases hr0)
  | n + 1 => by
    have ih := bX5_lineThatHolds_10 h hm hx hr h29 n
    exact qSnd_of (fun lo st m x hr0 => by
    unfold wX5_lineThatHolds_10 at hr0
    split at hr0
    · have he := (qbeq hr0).1
      have hr1 := (qbeq hr0).2
      rw [he]
      exact ⟨_, (qsub_e (qsub_e (qsub_e (qsub_e (qsub_e qsub_nil))))), (lX5_lineThatHolds_10 r hr _ n _ _ _ _).trans hr1⟩
    · cases hr0) (sX5_lineThatHolds_10 h hm hx hr h29 ih)
noncomputable def tX5_lineThatHolds_29 (r : Nat) (j2 : qT (Int32 × qM)) : qT (Int32 × qM) :=
  oLi 3 (oEq (oInc 2 (1 : Int32) (j2)) (oLi 2 (eI)))
noncomputable def wX5_lineThatHolds_2 (r : Nat) (k : Int32 → qM → Option (Int32 × qM)) : qT (Int32 × qM) := fun lo st m => match lo, st with
  | [some (.ref q0), some (.ref 84), some (.int a2), _, _], [] => bif Nat.beq q0 r then k a2 m else none
  | _, _ => none
set_option maxRecDepth 20000 in
theorem sX5_lineThatHolds_29 {C : qCx} {w : qWp} {r : Nat} (h : qOk C w RX5 cX5_lineThatHolds 5 2 155 155) (hm : qMt C (some .int)) (hx : qNx C) (hr : qpol r = true) {j2 : qT (Int32 × qM)} (k2 : qSnd C w 5 155 (qQf C w 155 155 jI) qfin 155 2 j2) : qSnd C w 5 155 (qQf C w 155 155 jI) qfin 155 48 (tX5_lineThatHolds_29 r j2) :=
  cLi (pc := 48) h dX5_lineThatHolds_48 rfl (jEq (pc := 49) h dX5_lineThatHolds_49 rfl (cInc (pc := 54) h dX5_lineThatHolds_54 rfl (jGo (pc := 57) h dX5_lineThatHolds_57 rfl (k2))) (cLi (pc := 52) h dX5_lineThatHolds_52 rfl (zI (pc := 53) h hm (Nat.le_refl _) dX5_lineThatHolds_53)))
set_option maxRecDepth 20000 in
theorem lX5_lineThatHolds_29 (r : Nat) (hr : qpol r = true) (k2 : Int32 → qM → Option (Int32 × qM)) (a2 : Int32) (a3 : Int32) (m : qM) : tX5_lineThatHolds_29 r (wX5_lineThatHolds_2 r k2) [some (.ref r), some (.ref 84), some (.int a2), some (.int a3), none] [] m = fX5_lineThatHolds_29 r k2 a2 a3 m := by
  rcases qpol_cases hr with rfl | rfl | rfl | rfl | rfl <;> rfl
theorem bX5_lineThatHolds_29 {C : qCx} {w : qWp} {r : Nat} (h : qOk C w RX5 cX5_lineThatHolds 5 2 155 155) (hm : qMt C (some .int)) (hx : qNx C) (hr : qpol r = true) {k2 : Int32 → qM → Option (Int32 × qM)} (h2 : qSnd C w 5 155 (qQf C w 155 155 jI) qfin 155 2 (wX5_lineThatHolds_2 r k2)) : qSnd C w 5 155 (qQf C w 155 155 jI) qfin 155 48 (wX5_lineThatHolds_29 r (fX5_lineThatHolds_29 r k2)) :=
  qSnd_of (fun lo st m x hr0 => by
    unfold wX5_lineThatHolds_29 at hr0
    split at hr0
    · have he := (qbeq hr0).1
      have hr1 := (qbeq hr0).2
      rw [he]
      exact ⟨_, (qsub_e (qsub_e (qsub_e (qsub_e (qsub_n qsub_nil))))), (lX5_lineThatHolds_29 r hr _ _ _ _).trans hr1⟩
    · cases hr0) (sX5_lineThatHolds_29 h hm hx hr h2)
noncomputable def tX5_lineThatHolds_2 (r : Nat) (j10 : qT (Int32 × qM)) : qT (Int32 × qM) :=
  oLi 2 (oLa 0 (oGi r 6 (oCGe (oC (.int (-1 : Int32)) (eI)) (oC (.int (1 : Int32)) (oSi 3 (oC (.int (0 : Int32)) (oSi 4 (j10))))))))
set_option maxRecDepth 20000 in
theorem sX5_lineThatHolds_2 {C : qCx} {w : qWp} {r : Nat} (h : qOk C w RX5 cX5_lineThatHolds 5 2 155 155) (hm : qMt C (some .int)) (hx : qNx C) (hr : qpol r = true) {j10 : qT (Int32 × qM)} (k10 : qSnd C w 5 155 (qQf C w 155 155 jI) qfin 155 15 j10) : qSnd C w 5 155 (qQf C w 155 155 jI) qfin 155 2 (tX5_lineThatHolds_2 r j10) :=
  cLi (pc := 2) h dX5_lineThatHolds_2 rfl (cLa (pc := 3) h dX5_lineThatHolds_3 rfl (gGi (pc := 4) h dX5_lineThatHolds_4 (ffp_X5_30_0 hr) (fp_hn_0 hr) (by decide) (jCGe (pc := 7) h dX5_lineThatHolds_7 rfl (cC (pc := 60) h dX5_lineThatHolds_60 rfl (zI (pc := 61) h hm (Nat.le_refl _) dX5_lineThatHolds_61)) (cC (pc := 10) h dX5_lineThatHolds_10 rfl (cSi (pc := 11) h dX5_lineThatHolds_11 rfl (cC (pc := 12) h dX5_lineThatHolds_12 rfl (cSI (pc := 13) h dX5_lineThatHolds_13 (k10))))))))
set_option maxRecDepth 20000 in
theorem lX5_lineThatHolds_2 (r : Nat) (hr : qpol r = true) (n : Nat) (a2 : Int32) (m : qM) : tX5_lineThatHolds_2 r (wX5_lineThatHolds_10 r (fX5_lineThatHolds_10 r (fX5_lineThatHolds_29 r (fX5_lineThatHolds_2 r n)) FU)) [some (.ref r), some (.ref 84), some (.int a2), none, none] [] m = fX5_lineThatHolds_2 r (n + 1) a2 m := by
  rcases qpol_cases hr with rfl | rfl | rfl | rfl | rfl <;> rfl
theorem bX5_lineThatHolds_2 {C : qCx} {w : qWp} {r : Nat} (h : qOk C w RX5 cX5_lineThatHolds 5 2 155 155) (hm : qMt C (some .int)) (hx : qNx C) (hr : qpol r = true) : ∀ n : Nat, qSnd C w 5 155 (qQf C w 155 155 jI) qfin 155 2 (wX5_lineThatHolds_2 r (fX5_lineThatHolds_2 r n))
  | 0 => qSnd_of0 (fun lo st m x hr0 => by
    unfold wX5_lineThatHolds_2 at hr0
    split at hr0
    · cases (qbeq hr0).2
    · cases hr0)
  | n + 1 => by
    have ih := bX5_lineThatHolds_2 h hm hx hr n
    exact qSnd_of (fun lo st m x hr0 => by
    unfold wX5_lineThatHolds_2 at hr0
    split at hr0
    · have he := (qbeq hr0).1
      have hr1 := (qbeq hr0).2
      rw [he]
      exact ⟨_, (qsub_e (qsub_e (qsub_e (qsub_n (qsub_n qsub_nil))))), (lX5_lineThatHolds_2 r hr n _ _).trans hr1⟩
    · cases hr0) (sX5_lineThatHolds_2 h hm hx hr (bX5_lineThatHolds_10 h hm hx hr (bX5_lineThatHolds_29 h hm hx hr ih) FU))
noncomputable def tX5_lineThatHolds_0 (r : Nat) (j2 : qT (Int32 × qM)) : qT (Int32 × qM) :=
  oC (.int (0 : Int32)) (oSi 2 (j2))
set_option maxRecDepth 20000 in
theorem sX5_lineThatHolds_0 {C : qCx} {w : qWp} {r : Nat} (h : qOk C w RX5 cX5_lineThatHolds 5 2 155 155) (hm : qMt C (some .int)) (hx : qNx C) (hr : qpol r = true) {j2 : qT (Int32 × qM)} (k2 : qSnd C w 5 155 (qQf C w 155 155 jI) qfin 155 2 j2) : qSnd C w 5 155 (qQf C w 155 155 jI) qfin 155 0 (tX5_lineThatHolds_0 r j2) :=
  cC (pc := 0) h dX5_lineThatHolds_0 rfl (cSi (pc := 1) h dX5_lineThatHolds_1 rfl (k2))
set_option maxRecDepth 20000 in
theorem lX5_lineThatHolds_0 (r : Nat) (hr : qpol r = true) (m : qM) : tX5_lineThatHolds_0 r (wX5_lineThatHolds_2 r (fX5_lineThatHolds_2 r FU)) [some (.ref r), some (.ref 84), none, none, none] [] m = fX5_lineThatHolds_0 r m := by
  rcases qpol_cases hr with rfl | rfl | rfl | rfl | rfl <;> rfl
noncomputable def GX5_lineThatHolds : qG Int32 := fun av m => match av with
  | [.ref r, .ref 84] => bif qpol r then fX5_lineThatHolds r m else none
  | _ => none
theorem spX5_lineThatHolds : qSpI yX5_lineThatHolds (.code yX5_lineThatHolds cX5_lineThatHolds 5 (some .int)) 2 qfin 155 155 1 GX5_lineThatHolds := by
  intro av m x m' hG
  unfold GX5_lineThatHolds at hG
  split at hG
  · rename_i r
    obtain ⟨hr, hG⟩ := qbt hG
    rw [fX5_lineThatHolds_d] at hG
    exact ⟨qmeet (J := jI) (r := (x, m')) (av := [.ref r, .ref 84]) (by decide +kernel) (Nat.le_of_ble_eq_true rfl) (fun C w h hm hx hn => sX5_lineThatHolds_0 h hm hx hr (bX5_lineThatHolds_2 h hm hx hr FU)) ((lX5_lineThatHolds_0 _ hr _).trans hG) (Nat.le_of_ble_eq_true rfl), qRc_pol hr rfl⟩
  · cases hG
theorem dX10_usualOver_0 : decode cX10_usualOver 0 = .ok (.aload_n 0, 1) := by decide +kernel
theorem dX10_usualOver_1 : decode cX10_usualOver 1 = .ok (.getfield 29, 3) := by decide +kernel
theorem dX10_usualOver_4 : decode cX10_usualOver 4 = .ok (.iload_n 1, 1) := by decide +kernel
theorem dX10_usualOver_5 : decode cX10_usualOver 5 = .ok (.iaload, 1) := by decide +kernel
theorem dX10_usualOver_6 : decode cX10_usualOver 6 = .ok (.istore_n 2, 1) := by decide +kernel
theorem dX10_usualOver_7 : decode cX10_usualOver 7 = .ok (.iload_n 2, 1) := by decide +kernel
theorem dX10_usualOver_8 : decode cX10_usualOver 8 = .ok (.ifCond .ne 7, 3) := by decide +kernel
theorem dX10_usualOver_11 : decode cX10_usualOver 11 = .ok (.iconst 0, 1) := by decide +kernel
theorem dX10_usualOver_12 : decode cX10_usualOver 12 = .ok (.goto 18, 3) := by decide +kernel
theorem dX10_usualOver_15 : decode cX10_usualOver 15 = .ok (.aload_n 0, 1) := by decide +kernel
theorem dX10_usualOver_16 : decode cX10_usualOver 16 = .ok (.getfield 26, 3) := by decide +kernel
theorem dX10_usualOver_19 : decode cX10_usualOver 19 = .ok (.iload_n 1, 1) := by decide +kernel
theorem dX10_usualOver_20 : decode cX10_usualOver 20 = .ok (.bipush 20, 2) := by decide +kernel
theorem dX10_usualOver_22 : decode cX10_usualOver 22 = .ok (.imul, 1) := by decide +kernel
theorem dX10_usualOver_23 : decode cX10_usualOver 23 = .ok (.iload_n 2, 1) := by decide +kernel
theorem dX10_usualOver_24 : decode cX10_usualOver 24 = .ok (.iconst 1, 1) := by decide +kernel
theorem dX10_usualOver_25 : decode cX10_usualOver 25 = .ok (.isub, 1) := by decide +kernel
theorem dX10_usualOver_26 : decode cX10_usualOver 26 = .ok (.iconst 2, 1) := by decide +kernel
theorem dX10_usualOver_27 : decode cX10_usualOver 27 = .ok (.idiv, 1) := by decide +kernel
theorem dX10_usualOver_28 : decode cX10_usualOver 28 = .ok (.iadd, 1) := by decide +kernel
theorem dX10_usualOver_29 : decode cX10_usualOver 29 = .ok (.iaload, 1) := by decide +kernel
theorem dX10_usualOver_30 : decode cX10_usualOver 30 = .ok (.ireturn, 1) := by decide +kernel
noncomputable def tX10_usualOver_21 : qT (Int32 × qM) :=
  eI
noncomputable def wX10_usualOver_21 (k : Int32 → qM → Option (Int32 × qM)) : qT (Int32 × qM) := fun lo st m => match lo, st with
  | [_, _, _], [.int s0] => k s0 m
  | _, _ => none
set_option maxRecDepth 20000 in
theorem sX10_usualOver_21 {C : qCx} {w : qWp} (h : qOk C w RX10 cX10_usualOver 3 0 155 155) (hm : qMt C (some .int)) (hx : qNx C) : qSnd C w 3 155 (qQf C w 155 155 jI) qfin 155 30 (tX10_usualOver_21) :=
  zI (pc := 30) h hm (Nat.le_refl _) dX10_usualOver_30
set_option maxRecDepth 20000 in
theorem lX10_usualOver_21 (s0 : Int32) (m : qM) : tX10_usualOver_21 [none, none, none] [(.int s0)] m = fX10_usualOver_21 s0 m := rfl
theorem bX10_usualOver_21 {C : qCx} {w : qWp} (h : qOk C w RX10 cX10_usualOver 3 0 155 155) (hm : qMt C (some .int)) (hx : qNx C) : qSnd C w 3 155 (qQf C w 155 155 jI) qfin 155 30 (wX10_usualOver_21 fX10_usualOver_21) :=
  qSnd_of (fun lo st m x hr0 => by
    unfold wX10_usualOver_21 at hr0
    split at hr0
    · exact ⟨_, (qsub_n (qsub_n (qsub_n qsub_nil))), (lX10_usualOver_21 _ _).trans hr0⟩
    · cases hr0) (sX10_usualOver_21 h hm hx)
noncomputable def tX10_usualOver_0 (j21 : qT (Int32 × qM)) : qT (Int32 × qM) :=
  oLa 0 (oGf 7 4 18 (oLi 1 (oAi 18 10 (oSi 2 (oLi 2 (oEq (oC (.int (0 : Int32)) (j21)) (oLa 0 (oGf 7 3 17 (oLi 1 (oC (.int (20 : Int32)) (o2 (· * ·) (oLi 2 (oC (.int (1 : Int32)) (o2 (· - ·) (oC (.int (2 : Int32)) (oDiv (o2 (· + ·) (oAi 17 200 (j21)))))))))))))))))))
set_option maxRecDepth 20000 in
theorem sX10_usualOver_0 {C : qCx} {w : qWp} (h : qOk C w RX10 cX10_usualOver 3 0 155 155) (hm : qMt C (some .int)) (hx : qNx C) {j21 : qT (Int32 × qM)} (k21 : qSnd C w 3 155 (qQf C w 155 155 jI) qfin 155 30 j21) : qSnd C w 3 155 (qQf C w 155 155 jI) qfin 155 0 (tX10_usualOver_0 j21) :=
  cLa (pc := 0) h dX10_usualOver_0 rfl (gGf (pc := 1) h dX10_usualOver_1 ff_X10_29_7 (Nat.le_of_ble_eq_true rfl) (Nat.le_of_ble_eq_true rfl) rfl (cLi (pc := 4) h dX10_usualOver_4 rfl (rAi (pc := 5) h dX10_usualOver_5 rfl (Nat.le_of_ble_eq_true rfl) (Nat.le_of_ble_eq_true rfl) (cSi (pc := 6) h dX10_usualOver_6 rfl (cLi (pc := 7) h dX10_usualOver_7 rfl (jNe (pc := 8) h dX10_usualOver_8 rfl (cLa (pc := 15) h dX10_usualOver_15 rfl (gGf (pc := 16) h dX10_usualOver_16 ff_X10_26_7 (Nat.le_of_ble_eq_true rfl) (Nat.le_of_ble_eq_true rfl) rfl (cLi (pc := 19) h dX10_usualOver_19 rfl (cB (pc := 20) h dX10_usualOver_20 rfl (aMul (pc := 22) h dX10_usualOver_22 (cLi (pc := 23) h dX10_usualOver_23 rfl (cC (pc := 24) h dX10_usualOver_24 rfl (aSub (pc := 25) h dX10_usualOver_25 (cC (pc := 26) h dX10_usualOver_26 rfl (aDiv (pc := 27) h dX10_usualOver_27 (aAdd (pc := 28) h dX10_usualOver_28 (rAi (pc := 29) h dX10_usualOver_29 rfl (Nat.le_of_ble_eq_true rfl) (Nat.le_of_ble_eq_true rfl) (k21))))))))))))) (cC (pc := 11) h dX10_usualOver_11 rfl (jGo (pc := 12) h dX10_usualOver_12 rfl (k21)))))))))
set_option maxRecDepth 20000 in
theorem lX10_usualOver_0 (a1 : Int32) (m : qM) : tX10_usualOver_0 (wX10_usualOver_21 fX10_usualOver_21) [some (.ref 7), some (.int a1), none] [] m = fX10_usualOver_0 a1 m := rfl
noncomputable def GX10_usualOver : qG Int32 := fun av m => match av with
  | [.ref 7, .int a1] => fX10_usualOver a1 m
  | _ => none
theorem spX10_usualOver : qSpI yX10_usualOver (.code yX10_usualOver cX10_usualOver 3 (some .int)) 0 qfin 155 155 1 GX10_usualOver := by
  intro av m x m' hG
  unfold GX10_usualOver at hG
  split at hG
  · rename_i a1
    rw [fX10_usualOver_d] at hG
    exact ⟨qmeet (J := jI) (r := (x, m')) (av := [.ref 7, .int a1]) (by decide +kernel) (Nat.le_of_ble_eq_true rfl) (fun C w h hm hx hn => sX10_usualOver_0 h hm hx (bX10_usualOver_21 h hm hx)) ((lX10_usualOver_0 _ _).trans hG) (Nat.le_of_ble_eq_true rfl), Or.inl ⟨7, _, 10, _, _, rfl, by decide, rfl, qCk_10, rfl⟩⟩
  · cases hG
theorem im_X10_usualOver : Jvm.Cond.instanceMethod yX10_usualOver ∈ qTw := qm5 (List.mem_of_getElem? (i := 71) (by decide +kernel)) (by decide +kernel)
theorem se_X10_usualOver : Jvm.Cond.selects yX10_usualOver.cls yX10_usualOver yX10_usualOver ∈ qTw := qm5 (List.mem_of_getElem? (i := 72) (by decide +kernel)) (by decide +kernel)
theorem co_X10_usualOver : Jvm.Cond.code yX10_usualOver cX10_usualOver 3 (some .int) ∈ qTw := qm5 (List.mem_of_getElem? (i := 73) (by decide +kernel)) (by decide +kernel)
theorem yk_X10_usualOver : qYk yX10_usualOver 1 := ⟨⟨by decide +kernel, by decide +kernel⟩, by decide +kernel⟩
theorem ml_X1_211 : Jvm.Cond.methodLink RX1 211 yX10_usualOver ∈ qTw := qm5 (List.mem_of_getElem? (i := 190) (by decide +kernel)) (by decide +kernel)
theorem kd_X1_211 {C : qCx} {w : qWp} {cc : ByteArray} {nL dp n0 n1 pc : Nat} (h : qOk C w RX1 cc nL dp n0 n1) (d : decode cc pc = .ok (.invokevirtual 211, 3)) : qCallOk C w nL dp n0 n1 pc 2 1 yX10_usualOver (.code yX10_usualOver cX10_usualOver 3 (some .int)) := kindV h d ml_X1_211 im_X10_usualOver se_X10_usualOver in_ParentEve_Ways co_X10_usualOver yk_X10_usualOver (by decide)
theorem dX1_fullMinutes_0 : decode cX1_fullMinutes 0 = .ok (.aload_n 0, 1) := by decide +kernel
theorem dX1_fullMinutes_1 : decode cX1_fullMinutes 1 = .ok (.getfield 47, 3) := by decide +kernel
theorem dX1_fullMinutes_4 : decode cX1_fullMinutes 4 = .ok (.iload_n 1, 1) := by decide +kernel
theorem dX1_fullMinutes_5 : decode cX1_fullMinutes 5 = .ok (.iaload, 1) := by decide +kernel
theorem dX1_fullMinutes_6 : decode cX1_fullMinutes 6 = .ok (.iconst (-1), 1) := by decide +kernel
theorem dX1_fullMinutes_7 : decode cX1_fullMinutes 7 = .ok (.if_icmp .eq 12, 3) := by decide +kernel
theorem dX1_fullMinutes_10 : decode cX1_fullMinutes 10 = .ok (.aload_n 0, 1) := by decide +kernel
theorem dX1_fullMinutes_11 : decode cX1_fullMinutes 11 = .ok (.getfield 47, 3) := by decide +kernel
theorem dX1_fullMinutes_14 : decode cX1_fullMinutes 14 = .ok (.iload_n 1, 1) := by decide +kernel
theorem dX1_fullMinutes_15 : decode cX1_fullMinutes 15 = .ok (.iaload, 1) := by decide +kernel
theorem dX1_fullMinutes_16 : decode cX1_fullMinutes 16 = .ok (.goto 18, 3) := by decide +kernel
theorem dX1_fullMinutes_19 : decode cX1_fullMinutes 19 = .ok (.aload_n 0, 1) := by decide +kernel
theorem dX1_fullMinutes_20 : decode cX1_fullMinutes 20 = .ok (.getfield 60, 3) := by decide +kernel
theorem dX1_fullMinutes_23 : decode cX1_fullMinutes 23 = .ok (.aload_n 0, 1) := by decide +kernel
theorem dX1_fullMinutes_24 : decode cX1_fullMinutes 24 = .ok (.getfield 68, 3) := by decide +kernel
theorem dX1_fullMinutes_27 : decode cX1_fullMinutes 27 = .ok (.iload_n 1, 1) := by decide +kernel
theorem dX1_fullMinutes_28 : decode cX1_fullMinutes 28 = .ok (.invokevirtual 159, 3) := by decide +kernel
theorem dX1_fullMinutes_31 : decode cX1_fullMinutes 31 = .ok (.invokevirtual 211, 3) := by decide +kernel
theorem dX1_fullMinutes_34 : decode cX1_fullMinutes 34 = .ok (.istore_n 2, 1) := by decide +kernel
theorem dX1_fullMinutes_35 : decode cX1_fullMinutes 35 = .ok (.aload_n 0, 1) := by decide +kernel
theorem dX1_fullMinutes_36 : decode cX1_fullMinutes 36 = .ok (.getfield 56, 3) := by decide +kernel
theorem dX1_fullMinutes_39 : decode cX1_fullMinutes 39 = .ok (.invokevirtual 111, 3) := by decide +kernel
theorem dX1_fullMinutes_42 : decode cX1_fullMinutes 42 = .ok (.iload_n 2, 1) := by decide +kernel
theorem dX1_fullMinutes_43 : decode cX1_fullMinutes 43 = .ok (.iadd, 1) := by decide +kernel
theorem dX1_fullMinutes_44 : decode cX1_fullMinutes 44 = .ok (.ireturn, 1) := by decide +kernel
noncomputable def tX1_fullMinutes_18 : qT (Int32 × qM) :=
  oSi 2 (oLa 0 (oGf 80 0 4 (oCi GX7_slotMinutes 1 (oLi 2 (o2 (· + ·) (eI))))))
noncomputable def wX1_fullMinutes_18 (k : Int32 → qM → Option (Int32 × qM)) : qT (Int32 × qM) := fun lo st m => match lo, st with
  | [some (.ref 80), _, _], [.int s0] => k s0 m
  | _, _ => none
set_option maxRecDepth 20000 in
theorem sX1_fullMinutes_18 {C : qCx} {w : qWp} (h : qOk C w RX1 cX1_fullMinutes 3 1 155 155) (hm : qMt C (some .int)) (hx : qNx C) : qSnd C w 3 155 (qQf C w 155 155 jI) qfin 155 34 (tX1_fullMinutes_18) :=
  cSi (pc := 34) h dX1_fullMinutes_34 rfl (cLa (pc := 35) h dX1_fullMinutes_35 rfl (gGf (pc := 36) h dX1_fullMinutes_36 ff_X1_56_80 (Nat.le_of_ble_eq_true rfl) (Nat.le_of_ble_eq_true rfl) rfl (kCi (pc := 39) h (kd_X1_111 h dX1_fullMinutes_39) spX7_slotMinutes (by decide) (by decide) (by decide) (by decide) (cLi (pc := 42) h dX1_fullMinutes_42 rfl (aAdd (pc := 43) h dX1_fullMinutes_43 (zI (pc := 44) h hm (Nat.le_refl _) dX1_fullMinutes_44))))))
set_option maxRecDepth 20000 in
theorem lX1_fullMinutes_18 (s0 : Int32) (m : qM) : tX1_fullMinutes_18 [some (.ref 80), none, none] [(.int s0)] m = fX1_fullMinutes_18 s0 m := rfl
theorem bX1_fullMinutes_18 {C : qCx} {w : qWp} (h : qOk C w RX1 cX1_fullMinutes 3 1 155 155) (hm : qMt C (some .int)) (hx : qNx C) : qSnd C w 3 155 (qQf C w 155 155 jI) qfin 155 34 (wX1_fullMinutes_18 fX1_fullMinutes_18) :=
  qSnd_of (fun lo st m x hr0 => by
    unfold wX1_fullMinutes_18 at hr0
    split at hr0
    · exact ⟨_, (qsub_e (qsub_n (qsub_n qsub_nil))), (lX1_fullMinutes_18 _ _).trans hr0⟩
    · cases hr0) (sX1_fullMinutes_18 h hm hx)
noncomputable def tX1_fullMinutes_0 (j18 : qT (Int32 × qM)) : qT (Int32 × qM) :=
  oLa 0 (oGf 80 16 90 (oLi 1 (oAi 90 40 (oC (.int (-1 : Int32)) (oCEq (oLa 0 (oGf 80 1 7 (oLa 0 (oGf 80 3 58 (oLi 1 (oCi GX4_teacherOf 2 (oCi GX10_usualOver 2 (j18)))))))) (oLa 0 (oGf 80 16 90 (oLi 1 (oAi 90 40 (j18))))))))))
set_option maxRecDepth 20000 in
theorem sX1_fullMinutes_0 {C : qCx} {w : qWp} (h : qOk C w RX1 cX1_fullMinutes 3 1 155 155) (hm : qMt C (some .int)) (hx : qNx C) {j18 : qT (Int32 × qM)} (k18 : qSnd C w 3 155 (qQf C w 155 155 jI) qfin 155 34 j18) : qSnd C w 3 155 (qQf C w 155 155 jI) qfin 155 0 (tX1_fullMinutes_0 j18) :=
  cLa (pc := 0) h dX1_fullMinutes_0 rfl (gGf (pc := 1) h dX1_fullMinutes_1 ff_X1_47_80 (Nat.le_of_ble_eq_true rfl) (Nat.le_of_ble_eq_true rfl) rfl (cLi (pc := 4) h dX1_fullMinutes_4 rfl (rAi (pc := 5) h dX1_fullMinutes_5 rfl (Nat.le_of_ble_eq_true rfl) (Nat.le_of_ble_eq_true rfl) (cC (pc := 6) h dX1_fullMinutes_6 rfl (jCEq (pc := 7) h dX1_fullMinutes_7 rfl (cLa (pc := 19) h dX1_fullMinutes_19 rfl (gGf (pc := 20) h dX1_fullMinutes_20 ff_X1_60_80 (Nat.le_of_ble_eq_true rfl) (Nat.le_of_ble_eq_true rfl) rfl (cLa (pc := 23) h dX1_fullMinutes_23 rfl (gGf (pc := 24) h dX1_fullMinutes_24 ff_X1_68_80 (Nat.le_of_ble_eq_true rfl) (Nat.le_of_ble_eq_true rfl) rfl (cLi (pc := 27) h dX1_fullMinutes_27 rfl (kCi (pc := 28) h (kd_X1_159 h dX1_fullMinutes_28) spX4_teacherOf (by decide) (by decide) (by decide) (by decide) (kCi (pc := 31) h (kd_X1_211 h dX1_fullMinutes_31) spX10_usualOver (by decide) (by decide) (by decide) (by decide) (k18)))))))) (cLa (pc := 10) h dX1_fullMinutes_10 rfl (gGf (pc := 11) h dX1_fullMinutes_11 ff_X1_47_80 (Nat.le_of_ble_eq_true rfl) (Nat.le_of_ble_eq_true rfl) rfl (cLi (pc := 14) h dX1_fullMinutes_14 rfl (rAi (pc := 15) h dX1_fullMinutes_15 rfl (Nat.le_of_ble_eq_true rfl) (Nat.le_of_ble_eq_true rfl) (jGo (pc := 16) h dX1_fullMinutes_16 rfl (k18)))))))))))
set_option maxRecDepth 20000 in
theorem lX1_fullMinutes_0 (a1 : Int32) (m : qM) : tX1_fullMinutes_0 (wX1_fullMinutes_18 fX1_fullMinutes_18) [some (.ref 80), some (.int a1), none] [] m = fX1_fullMinutes_0 a1 m := rfl
noncomputable def GX1_fullMinutes : qG Int32 := fun av m => match av with
  | [.ref 80, .int a1] => fX1_fullMinutes a1 m
  | _ => none
theorem spX1_fullMinutes : qSpI yX1_fullMinutes (.code yX1_fullMinutes cX1_fullMinutes 3 (some .int)) 1 qfin 155 155 1 GX1_fullMinutes := by
  intro av m x m' hG
  unfold GX1_fullMinutes at hG
  split at hG
  · rename_i a1
    rw [fX1_fullMinutes_d] at hG
    exact ⟨qmeet (J := jI) (r := (x, m')) (av := [.ref 80, .int a1]) (by decide +kernel) (Nat.le_of_ble_eq_true rfl) (fun C w h hm hx hn => sX1_fullMinutes_0 h hm hx (bX1_fullMinutes_18 h hm hx)) ((lX1_fullMinutes_0 _ _).trans hG) (Nat.le_of_ble_eq_true rfl), Or.inl ⟨80, _, 1, _, _, rfl, by decide, rfl, qCk_1, rfl⟩⟩
  · cases hG
theorem dX1_meet_0 : decode cX1_meet 0 = .ok (.aload_n 0, 1) := by decide +kernel
theorem dX1_meet_1 : decode cX1_meet 1 = .ok (.getfield 68, 3) := by decide +kernel
theorem dX1_meet_4 : decode cX1_meet 4 = .ok (.iload_n 1, 1) := by decide +kernel
theorem dX1_meet_5 : decode cX1_meet 5 = .ok (.invokevirtual 202, 3) := by decide +kernel
theorem dX1_meet_8 : decode cX1_meet 8 = .ok (.istore 4, 2) := by decide +kernel
theorem dX1_meet_10 : decode cX1_meet 10 = .ok (.aload_n 0, 1) := by decide +kernel
theorem dX1_meet_11 : decode cX1_meet 11 = .ok (.getfield 68, 3) := by decide +kernel
theorem dX1_meet_14 : decode cX1_meet 14 = .ok (.iload_n 1, 1) := by decide +kernel
theorem dX1_meet_15 : decode cX1_meet 15 = .ok (.invokevirtual 159, 3) := by decide +kernel
theorem dX1_meet_18 : decode cX1_meet 18 = .ok (.istore 5, 2) := by decide +kernel
theorem dX1_meet_20 : decode cX1_meet 20 = .ok (.iload_n 2, 1) := by decide +kernel
theorem dX1_meet_21 : decode cX1_meet 21 = .ok (.iload_n 3, 1) := by decide +kernel
theorem dX1_meet_22 : decode cX1_meet 22 = .ok (.iadd, 1) := by decide +kernel
theorem dX1_meet_23 : decode cX1_meet 23 = .ok (.istore 6, 2) := by decide +kernel
theorem dX1_meet_25 : decode cX1_meet 25 = .ok (.aload_n 0, 1) := by decide +kernel
theorem dX1_meet_26 : decode cX1_meet 26 = .ok (.getfield 11, 3) := by decide +kernel
theorem dX1_meet_29 : decode cX1_meet 29 = .ok (.aload_n 0, 1) := by decide +kernel
theorem dX1_meet_30 : decode cX1_meet 30 = .ok (.getfield 22, 3) := by decide +kernel
theorem dX1_meet_33 : decode cX1_meet 33 = .ok (.iload_n 1, 1) := by decide +kernel
theorem dX1_meet_34 : decode cX1_meet 34 = .ok (.iadd, 1) := by decide +kernel
theorem dX1_meet_35 : decode cX1_meet 35 = .ok (.iload_n 2, 1) := by decide +kernel
theorem dX1_meet_36 : decode cX1_meet 36 = .ok (.iastore, 1) := by decide +kernel
theorem dX1_meet_37 : decode cX1_meet 37 = .ok (.aload_n 0, 1) := by decide +kernel
theorem dX1_meet_38 : decode cX1_meet 38 = .ok (.getfield 15, 3) := by decide +kernel
theorem dX1_meet_41 : decode cX1_meet 41 = .ok (.aload_n 0, 1) := by decide +kernel
theorem dX1_meet_42 : decode cX1_meet 42 = .ok (.getfield 22, 3) := by decide +kernel
theorem dX1_meet_45 : decode cX1_meet 45 = .ok (.iload_n 1, 1) := by decide +kernel
theorem dX1_meet_46 : decode cX1_meet 46 = .ok (.iadd, 1) := by decide +kernel
theorem dX1_meet_47 : decode cX1_meet 47 = .ok (.iload 6, 2) := by decide +kernel
theorem dX1_meet_49 : decode cX1_meet 49 = .ok (.iastore, 1) := by decide +kernel
theorem dX1_meet_50 : decode cX1_meet 50 = .ok (.aload_n 0, 1) := by decide +kernel
theorem dX1_meet_51 : decode cX1_meet 51 = .ok (.getfield 35, 3) := by decide +kernel
theorem dX1_meet_54 : decode cX1_meet 54 = .ok (.iload 5, 2) := by decide +kernel
theorem dX1_meet_56 : decode cX1_meet 56 = .ok (.iload 6, 2) := by decide +kernel
theorem dX1_meet_58 : decode cX1_meet 58 = .ok (.iastore, 1) := by decide +kernel
theorem dX1_meet_59 : decode cX1_meet 59 = .ok (.aload_n 0, 1) := by decide +kernel
theorem dX1_meet_60 : decode cX1_meet 60 = .ok (.getfield 38, 3) := by decide +kernel
theorem dX1_meet_63 : decode cX1_meet 63 = .ok (.iload 4, 2) := by decide +kernel
theorem dX1_meet_65 : decode cX1_meet 65 = .ok (.iload 6, 2) := by decide +kernel
theorem dX1_meet_67 : decode cX1_meet 67 = .ok (.iastore, 1) := by decide +kernel
theorem dX1_meet_68 : decode cX1_meet 68 = .ok (.aload_n 0, 1) := by decide +kernel
theorem dX1_meet_69 : decode cX1_meet 69 = .ok (.getfield 41, 3) := by decide +kernel
theorem dX1_meet_72 : decode cX1_meet 72 = .ok (.iload 4, 2) := by decide +kernel
theorem dX1_meet_74 : decode cX1_meet 74 = .ok (.iload 5, 2) := by decide +kernel
theorem dX1_meet_76 : decode cX1_meet 76 = .ok (.iastore, 1) := by decide +kernel
theorem dX1_meet_77 : decode cX1_meet 77 = .ok (.aload_n 0, 1) := by decide +kernel
theorem dX1_meet_78 : decode cX1_meet 78 = .ok (.getfield 64, 3) := by decide +kernel
theorem dX1_meet_81 : decode cX1_meet 81 = .ok (.iload 4, 2) := by decide +kernel
theorem dX1_meet_83 : decode cX1_meet 83 = .ok (.invokevirtual 205, 3) := by decide +kernel
theorem dX1_meet_86 : decode cX1_meet 86 = .ok (.ifCond .le 19, 3) := by decide +kernel
theorem dX1_meet_89 : decode cX1_meet 89 = .ok (.aload_n 0, 1) := by decide +kernel
theorem dX1_meet_90 : decode cX1_meet 90 = .ok (.getfield 44, 3) := by decide +kernel
theorem dX1_meet_93 : decode cX1_meet 93 = .ok (.aload_n 0, 1) := by decide +kernel
theorem dX1_meet_94 : decode cX1_meet 94 = .ok (.getfield 64, 3) := by decide +kernel
theorem dX1_meet_97 : decode cX1_meet 97 = .ok (.iload 4, 2) := by decide +kernel
theorem dX1_meet_99 : decode cX1_meet 99 = .ok (.invokevirtual 205, 3) := by decide +kernel
theorem dX1_meet_102 : decode cX1_meet 102 = .ok (.iload 6, 2) := by decide +kernel
theorem dX1_meet_104 : decode cX1_meet 104 = .ok (.iastore, 1) := by decide +kernel
theorem dX1_meet_105 : decode cX1_meet 105 = .ok (.aload_n 0, 1) := by decide +kernel
theorem dX1_meet_106 : decode cX1_meet 106 = .ok (.getfield 32, 3) := by decide +kernel
theorem dX1_meet_109 : decode cX1_meet 109 = .ok (.iload 5, 2) := by decide +kernel
theorem dX1_meet_111 : decode cX1_meet 111 = .ok (.dup2, 1) := by decide +kernel
theorem dX1_meet_112 : decode cX1_meet 112 = .ok (.iaload, 1) := by decide +kernel
theorem dX1_meet_113 : decode cX1_meet 113 = .ok (.iconst 1, 1) := by decide +kernel
theorem dX1_meet_114 : decode cX1_meet 114 = .ok (.aload_n 0, 1) := by decide +kernel
theorem dX1_meet_115 : decode cX1_meet 115 = .ok (.getfield 68, 3) := by decide +kernel
theorem dX1_meet_118 : decode cX1_meet 118 = .ok (.iload_n 1, 1) := by decide +kernel
theorem dX1_meet_119 : decode cX1_meet 119 = .ok (.invokevirtual 169, 3) := by decide +kernel
theorem dX1_meet_122 : decode cX1_meet 122 = .ok (.ishl, 1) := by decide +kernel
theorem dX1_meet_123 : decode cX1_meet 123 = .ok (.iconst (-1), 1) := by decide +kernel
theorem dX1_meet_124 : decode cX1_meet 124 = .ok (.ixor, 1) := by decide +kernel
theorem dX1_meet_125 : decode cX1_meet 125 = .ok (.iand, 1) := by decide +kernel
theorem dX1_meet_126 : decode cX1_meet 126 = .ok (.iastore, 1) := by decide +kernel
theorem dX1_meet_127 : decode cX1_meet 127 = .ok (.return_, 1) := by decide +kernel
noncomputable def tX1_meet_58 : qT (Unit × qM) :=
  oLa 0 (oGf 80 11 85 (oLi 5 (oDup2 (oAi 85 10 (oC (.int (1 : Int32)) (oLa 0 (oGf 80 3 58 (oLi 1 (oCi GX4_slotOf 2 (o2 (fun x y => x <<< (y &&& 31)) (oC (.int (-1 : Int32)) (o2 (· ^^^ ·) (o2 (· &&& ·) (oWi 85 10 (eV)))))))))))))))
noncomputable def wX1_meet_58 (k : Int32 → Int32 → qM → Option (Unit × qM)) : qT (Unit × qM) := fun lo st m => match lo, st with
  | [some (.ref 80), some (.int a1), _, _, _, some (.int a5), _], [] => k a1 a5 m
  | _, _ => none
set_option maxRecDepth 20000 in
theorem sX1_meet_58 {C : qCx} {w : qWp} (h : qOk C w RX1 cX1_meet 7 1 155 155) (hm : qMt C none) (hx : qNx C) : qSnd C w 7 155 (qQf C w 155 155 jV) qfin 155 105 (tX1_meet_58) :=
  cLa (pc := 105) h dX1_meet_105 rfl (gGf (pc := 106) h dX1_meet_106 ff_X1_32_80 (Nat.le_of_ble_eq_true rfl) (Nat.le_of_ble_eq_true rfl) rfl (cLI (pc := 109) h dX1_meet_109 (aDup2 (pc := 111) h dX1_meet_111 (rAi (pc := 112) h dX1_meet_112 rfl (Nat.le_of_ble_eq_true rfl) (Nat.le_of_ble_eq_true rfl) (cC (pc := 113) h dX1_meet_113 rfl (cLa (pc := 114) h dX1_meet_114 rfl (gGf (pc := 115) h dX1_meet_115 ff_X1_68_80 (Nat.le_of_ble_eq_true rfl) (Nat.le_of_ble_eq_true rfl) rfl (cLi (pc := 118) h dX1_meet_118 rfl (kCi (pc := 119) h (kd_X1_169 h dX1_meet_119) spX4_slotOf (by decide) (by decide) (by decide) (by decide) (aShl (pc := 122) h dX1_meet_122 (cC (pc := 123) h dX1_meet_123 rfl (aXor (pc := 124) h dX1_meet_124 (aAnd (pc := 125) h dX1_meet_125 (rWi (pc := 126) h dX1_meet_126 rfl (Nat.le_of_ble_eq_true rfl) (Nat.le_of_ble_eq_true rfl) (zV (pc := 127) h hm (Nat.le_refl _) dX1_meet_127)))))))))))))))
set_option maxRecDepth 20000 in
theorem lX1_meet_58 (a1 : Int32) (a5 : Int32) (m : qM) : tX1_meet_58 [some (.ref 80), some (.int a1), none, none, none, some (.int a5), none] [] m = fX1_meet_58 a1 a5 m := rfl
theorem bX1_meet_58 {C : qCx} {w : qWp} (h : qOk C w RX1 cX1_meet 7 1 155 155) (hm : qMt C none) (hx : qNx C) : qSnd C w 7 155 (qQf C w 155 155 jV) qfin 155 105 (wX1_meet_58 fX1_meet_58) :=
  qSnd_of (fun lo st m x hr0 => by
    unfold wX1_meet_58 at hr0
    split at hr0
    · exact ⟨_, (qsub_e (qsub_e (qsub_n (qsub_n (qsub_n (qsub_e (qsub_n qsub_nil))))))), (lX1_meet_58 _ _ _).trans hr0⟩
    · cases hr0) (sX1_meet_58 h hm hx)
noncomputable def tX1_meet_0 (j58 : qT (Unit × qM)) : qT (Unit × qM) :=
  oLa 0 (oGf 80 3 58 (oLi 1 (oCi GX4_familyOf 2 (oSi 4 (oLa 0 (oGf 80 3 58 (oLi 1 (oCi GX4_teacherOf 2 (oSi 5 (oLi 2 (oLi 3 (o2 (· + ·) (oSi 6 (oLa 0 (oGf 80 5 81 (oLa 0 (oGi 80 8 (oLi 1 (o2 (· + ·) (oLi 2 (oWi 81 3240 (oLa 0 (oGf 80 6 82 (oLa 0 (oGi 80 8 (oLi 1 (o2 (· + ·) (oLi 6 (oWi 82 3240 (oLa 0 (oGf 80 12 86 (oLi 5 (oLi 6 (oWi 86 10 (oLa 0 (oGf 80 13 87 (oLi 4 (oLi 6 (oWi 87 15 (oLa 0 (oGf 80 14 88 (oLi 4 (oLi 5 (oWi 88 15 (oLa 0 (oGf 80 2 47 (oLi 4 (oCi GX3_tongueOf 2 (oLe (j58) (oLa 0 (oGf 80 15 89 (oLa 0 (oGf 80 2 47 (oLi 4 (oCi GX3_tongueOf 2 (oLi 6 (oWi 89 4 (j58))))))))))))))))))))))))))))))))))))))))))))))))))))))))))
set_option maxRecDepth 20000 in
theorem sX1_meet_0 {C : qCx} {w : qWp} (h : qOk C w RX1 cX1_meet 7 1 155 155) (hm : qMt C none) (hx : qNx C) {j58 : qT (Unit × qM)} (k58 : qSnd C w 7 155 (qQf C w 155 155 jV) qfin 155 105 j58) : qSnd C w 7 155 (qQf C w 155 155 jV) qfin 155 0 (tX1_meet_0 j58) :=
  cLa (pc := 0) h dX1_meet_0 rfl (gGf (pc := 1) h dX1_meet_1 ff_X1_68_80 (Nat.le_of_ble_eq_true rfl) (Nat.le_of_ble_eq_true rfl) rfl (cLi (pc := 4) h dX1_meet_4 rfl (kCi (pc := 5) h (kd_X1_202 h dX1_meet_5) spX4_familyOf (by decide) (by decide) (by decide) (by decide) (cSI (pc := 8) h dX1_meet_8 (cLa (pc := 10) h dX1_meet_10 rfl (gGf (pc := 11) h dX1_meet_11 ff_X1_68_80 (Nat.le_of_ble_eq_true rfl) (Nat.le_of_ble_eq_true rfl) rfl (cLi (pc := 14) h dX1_meet_14 rfl (kCi (pc := 15) h (kd_X1_159 h dX1_meet_15) spX4_teacherOf (by decide) (by decide) (by decide) (by decide) (cSI (pc := 18) h dX1_meet_18 (cLi (pc := 20) h dX1_meet_20 rfl (cLi (pc := 21) h dX1_meet_21 rfl (aAdd (pc := 22) h dX1_meet_22 (cSI (pc := 23) h dX1_meet_23 (cLa (pc := 25) h dX1_meet_25 rfl (gGf (pc := 26) h dX1_meet_26 ff_X1_11_80 (Nat.le_of_ble_eq_true rfl) (Nat.le_of_ble_eq_true rfl) rfl (cLa (pc := 29) h dX1_meet_29 rfl (gGi (pc := 30) h dX1_meet_30 ff_X1_22_80 (Nat.le_of_ble_eq_true rfl) (Nat.le_of_ble_eq_true rfl) (cLi (pc := 33) h dX1_meet_33 rfl (aAdd (pc := 34) h dX1_meet_34 (cLi (pc := 35) h dX1_meet_35 rfl (rWi (pc := 36) h dX1_meet_36 rfl (Nat.le_of_ble_eq_true rfl) (Nat.le_of_ble_eq_true rfl) (cLa (pc := 37) h dX1_meet_37 rfl (gGf (pc := 38) h dX1_meet_38 ff_X1_15_80 (Nat.le_of_ble_eq_true rfl) (Nat.le_of_ble_eq_true rfl) rfl (cLa (pc := 41) h dX1_meet_41 rfl (gGi (pc := 42) h dX1_meet_42 ff_X1_22_80 (Nat.le_of_ble_eq_true rfl) (Nat.le_of_ble_eq_true rfl) (cLi (pc := 45) h dX1_meet_45 rfl (aAdd (pc := 46) h dX1_meet_46 (cLI (pc := 47) h dX1_meet_47 (rWi (pc := 49) h dX1_meet_49 rfl (Nat.le_of_ble_eq_true rfl) (Nat.le_of_ble_eq_true rfl) (cLa (pc := 50) h dX1_meet_50 rfl (gGf (pc := 51) h dX1_meet_51 ff_X1_35_80 (Nat.le_of_ble_eq_true rfl) (Nat.le_of_ble_eq_true rfl) rfl (cLI (pc := 54) h dX1_meet_54 (cLI (pc := 56) h dX1_meet_56 (rWi (pc := 58) h dX1_meet_58 rfl (Nat.le_of_ble_eq_true rfl) (Nat.le_of_ble_eq_true rfl) (cLa (pc := 59) h dX1_meet_59 rfl (gGf (pc := 60) h dX1_meet_60 ff_X1_38_80 (Nat.le_of_ble_eq_true rfl) (Nat.le_of_ble_eq_true rfl) rfl (cLI (pc := 63) h dX1_meet_63 (cLI (pc := 65) h dX1_meet_65 (rWi (pc := 67) h dX1_meet_67 rfl (Nat.le_of_ble_eq_true rfl) (Nat.le_of_ble_eq_true rfl) (cLa (pc := 68) h dX1_meet_68 rfl (gGf (pc := 69) h dX1_meet_69 ff_X1_41_80 (Nat.le_of_ble_eq_true rfl) (Nat.le_of_ble_eq_true rfl) rfl (cLI (pc := 72) h dX1_meet_72 (cLI (pc := 74) h dX1_meet_74 (rWi (pc := 76) h dX1_meet_76 rfl (Nat.le_of_ble_eq_true rfl) (Nat.le_of_ble_eq_true rfl) (cLa (pc := 77) h dX1_meet_77 rfl (gGf (pc := 78) h dX1_meet_78 ff_X1_64_80 (Nat.le_of_ble_eq_true rfl) (Nat.le_of_ble_eq_true rfl) rfl (cLI (pc := 81) h dX1_meet_81 (kCi (pc := 83) h (kd_X1_205 h dX1_meet_83) spX3_tongueOf (by decide) (by decide) (by decide) (by decide) (jLe (pc := 86) h dX1_meet_86 rfl (k58) (cLa (pc := 89) h dX1_meet_89 rfl (gGf (pc := 90) h dX1_meet_90 ff_X1_44_80 (Nat.le_of_ble_eq_true rfl) (Nat.le_of_ble_eq_true rfl) rfl (cLa (pc := 93) h dX1_meet_93 rfl (gGf (pc := 94) h dX1_meet_94 ff_X1_64_80 (Nat.le_of_ble_eq_true rfl) (Nat.le_of_ble_eq_true rfl) rfl (cLI (pc := 97) h dX1_meet_97 (kCi (pc := 99) h (kd_X1_205 h dX1_meet_99) spX3_tongueOf (by decide) (by decide) (by decide) (by decide) (cLI (pc := 102) h dX1_meet_102 (rWi (pc := 104) h dX1_meet_104 rfl (Nat.le_of_ble_eq_true rfl) (Nat.le_of_ble_eq_true rfl) (k58))))))))))))))))))))))))))))))))))))))))))))))))))))))))))
set_option maxRecDepth 20000 in
theorem lX1_meet_0 (a1 : Int32) (a2 : Int32) (a3 : Int32) (m : qM) : tX1_meet_0 (wX1_meet_58 fX1_meet_58) [some (.ref 80), some (.int a1), some (.int a2), some (.int a3), none, none, none] [] m = fX1_meet_0 a1 a2 a3 m := rfl
noncomputable def GX1_meet : qG Unit := fun av m => match av with
  | [.ref 80, .int a1, .int a2, .int a3] => fX1_meet a1 a2 a3 m
  | _ => none
theorem spX1_meet : qSpV yX1_meet (.code yX1_meet cX1_meet 7 none) 1 qfin 155 155 1 GX1_meet := by
  intro av m m' hG
  unfold GX1_meet at hG
  split at hG
  · rename_i a1 a2 a3
    rw [fX1_meet_d] at hG
    exact ⟨qmeet (J := jV) (r := ((), m')) (av := [.ref 80, .int a1, .int a2, .int a3]) (by decide +kernel) (Nat.le_of_ble_eq_true rfl) (fun C w h hm hx hn => sX1_meet_0 h hm hx (bX1_meet_58 h hm hx)) ((lX1_meet_0 _ _ _ _).trans hG) (Nat.le_of_ble_eq_true rfl), Or.inl ⟨80, _, 1, _, _, rfl, by decide, rfl, qCk_1, rfl⟩⟩
  · cases hG
theorem dX1_drop_0 : decode cX1_drop 0 = .ok (.aload_n 0, 1) := by decide +kernel
theorem dX1_drop_1 : decode cX1_drop 1 = .ok (.getfield 32, 3) := by decide +kernel
theorem dX1_drop_4 : decode cX1_drop 4 = .ok (.aload_n 0, 1) := by decide +kernel
theorem dX1_drop_5 : decode cX1_drop 5 = .ok (.getfield 68, 3) := by decide +kernel
theorem dX1_drop_8 : decode cX1_drop 8 = .ok (.iload_n 1, 1) := by decide +kernel
theorem dX1_drop_9 : decode cX1_drop 9 = .ok (.invokevirtual 159, 3) := by decide +kernel
theorem dX1_drop_12 : decode cX1_drop 12 = .ok (.dup2, 1) := by decide +kernel
theorem dX1_drop_13 : decode cX1_drop 13 = .ok (.iaload, 1) := by decide +kernel
theorem dX1_drop_14 : decode cX1_drop 14 = .ok (.iconst 1, 1) := by decide +kernel
theorem dX1_drop_15 : decode cX1_drop 15 = .ok (.aload_n 0, 1) := by decide +kernel
theorem dX1_drop_16 : decode cX1_drop 16 = .ok (.getfield 68, 3) := by decide +kernel
theorem dX1_drop_19 : decode cX1_drop 19 = .ok (.iload_n 1, 1) := by decide +kernel
theorem dX1_drop_20 : decode cX1_drop 20 = .ok (.invokevirtual 169, 3) := by decide +kernel
theorem dX1_drop_23 : decode cX1_drop 23 = .ok (.ishl, 1) := by decide +kernel
theorem dX1_drop_24 : decode cX1_drop 24 = .ok (.iconst (-1), 1) := by decide +kernel
theorem dX1_drop_25 : decode cX1_drop 25 = .ok (.ixor, 1) := by decide +kernel
theorem dX1_drop_26 : decode cX1_drop 26 = .ok (.iand, 1) := by decide +kernel
theorem dX1_drop_27 : decode cX1_drop 27 = .ok (.iastore, 1) := by decide +kernel
theorem dX1_drop_28 : decode cX1_drop 28 = .ok (.return_, 1) := by decide +kernel
noncomputable def tX1_drop_0 : qT (Unit × qM) :=
  oLa 0 (oGf 80 11 85 (oLa 0 (oGf 80 3 58 (oLi 1 (oCi GX4_teacherOf 2 (oDup2 (oAi 85 10 (oC (.int (1 : Int32)) (oLa 0 (oGf 80 3 58 (oLi 1 (oCi GX4_slotOf 2 (o2 (fun x y => x <<< (y &&& 31)) (oC (.int (-1 : Int32)) (o2 (· ^^^ ·) (o2 (· &&& ·) (oWi 85 10 (eV))))))))))))))))))
set_option maxRecDepth 20000 in
theorem sX1_drop_0 {C : qCx} {w : qWp} (h : qOk C w RX1 cX1_drop 2 1 155 155) (hm : qMt C none) (hx : qNx C) : qSnd C w 2 155 (qQf C w 155 155 jV) qfin 155 0 (tX1_drop_0) :=
  cLa (pc := 0) h dX1_drop_0 rfl (gGf (pc := 1) h dX1_drop_1 ff_X1_32_80 (Nat.le_of_ble_eq_true rfl) (Nat.le_of_ble_eq_true rfl) rfl (cLa (pc := 4) h dX1_drop_4 rfl (gGf (pc := 5) h dX1_drop_5 ff_X1_68_80 (Nat.le_of_ble_eq_true rfl) (Nat.le_of_ble_eq_true rfl) rfl (cLi (pc := 8) h dX1_drop_8 rfl (kCi (pc := 9) h (kd_X1_159 h dX1_drop_9) spX4_teacherOf (by decide) (by decide) (by decide) (by decide) (aDup2 (pc := 12) h dX1_drop_12 (rAi (pc := 13) h dX1_drop_13 rfl (Nat.le_of_ble_eq_true rfl) (Nat.le_of_ble_eq_true rfl) (cC (pc := 14) h dX1_drop_14 rfl (cLa (pc := 15) h dX1_drop_15 rfl (gGf (pc := 16) h dX1_drop_16 ff_X1_68_80 (Nat.le_of_ble_eq_true rfl) (Nat.le_of_ble_eq_true rfl) rfl (cLi (pc := 19) h dX1_drop_19 rfl (kCi (pc := 20) h (kd_X1_169 h dX1_drop_20) spX4_slotOf (by decide) (by decide) (by decide) (by decide) (aShl (pc := 23) h dX1_drop_23 (cC (pc := 24) h dX1_drop_24 rfl (aXor (pc := 25) h dX1_drop_25 (aAnd (pc := 26) h dX1_drop_26 (rWi (pc := 27) h dX1_drop_27 rfl (Nat.le_of_ble_eq_true rfl) (Nat.le_of_ble_eq_true rfl) (zV (pc := 28) h hm (Nat.le_refl _) dX1_drop_28))))))))))))))))))
set_option maxRecDepth 20000 in
theorem lX1_drop_0 (a1 : Int32) (m : qM) : tX1_drop_0 [some (.ref 80), some (.int a1)] [] m = fX1_drop_0 a1 m := rfl
noncomputable def GX1_drop : qG Unit := fun av m => match av with
  | [.ref 80, .int a1] => fX1_drop a1 m
  | _ => none
theorem spX1_drop : qSpV yX1_drop (.code yX1_drop cX1_drop 2 none) 1 qfin 155 155 1 GX1_drop := by
  intro av m m' hG
  unfold GX1_drop at hG
  split at hG
  · rename_i a1
    rw [fX1_drop_d] at hG
    exact ⟨qmeet (J := jV) (r := ((), m')) (av := [.ref 80, .int a1]) (by decide +kernel) (Nat.le_of_ble_eq_true rfl) (fun C w h hm hx hn => sX1_drop_0 h hm hx) ((lX1_drop_0 _ _).trans hG) (Nat.le_of_ble_eq_true rfl), Or.inl ⟨80, _, 1, _, _, rfl, by decide, rfl, qCk_1, rfl⟩⟩
  · cases hG
theorem ml_X1_187 : Jvm.Cond.methodLink RX1 187 yX7_told ∈ qTw := qm5 (List.mem_of_getElem? (i := 195) (by decide +kernel)) (by decide +kernel)
theorem kd_X1_187 {C : qCx} {w : qWp} {cc : ByteArray} {nL dp n0 n1 pc : Nat} (h : qOk C w RX1 cc nL dp n0 n1) (d : decode cc pc = .ok (.invokevirtual 187, 3)) : qCallOk C w nL dp n0 n1 pc 2 1 yX7_told (.code yX7_told cX7_told 2 (some .int)) := kindV h d ml_X1_187 im_X7_told se_X7_told in_ParentEve_Rules co_X7_told yk_X7_told (by decide)
theorem im_X1_drop : Jvm.Cond.instanceMethod yX1_drop ∈ qTw := qm5 (List.mem_of_getElem? (i := 198) (by decide +kernel)) (by decide +kernel)
theorem se_X1_drop : Jvm.Cond.selects yX1_drop.cls yX1_drop yX1_drop ∈ qTw := List.mem_filter.mpr ⟨List.mem_append_left _ (List.mem_of_getElem? (i := 28) (by decide +kernel)), rfl⟩
theorem co_X1_drop : Jvm.Cond.code yX1_drop cX1_drop 2 none ∈ qTw := qm5 (List.mem_of_getElem? (i := 199) (by decide +kernel)) (by decide +kernel)
theorem yk_X1_drop : qYk yX1_drop 1 := ⟨⟨by decide +kernel, by decide +kernel⟩, by decide +kernel⟩
theorem ml_X1_190 : Jvm.Cond.methodLink RX1 190 yX1_drop ∈ qTw := qm5 (List.mem_of_getElem? (i := 196) (by decide +kernel)) (by decide +kernel)
theorem kd_X1_190 {C : qCx} {w : qWp} {cc : ByteArray} {nL dp n0 n1 pc : Nat} (h : qOk C w RX1 cc nL dp n0 n1) (d : decode cc pc = .ok (.invokevirtual 190, 3)) : qCallOk C w nL dp n0 n1 pc 2 1 yX1_drop (.code yX1_drop cX1_drop 2 none) := kindV h d ml_X1_190 im_X1_drop se_X1_drop in_ParentEve_Evening co_X1_drop yk_X1_drop (by decide)
theorem im_X1_fullMinutes : Jvm.Cond.instanceMethod yX1_fullMinutes ∈ qTw := qm5 (List.mem_of_getElem? (i := 188) (by decide +kernel)) (by decide +kernel)
theorem se_X1_fullMinutes : Jvm.Cond.selects yX1_fullMinutes.cls yX1_fullMinutes yX1_fullMinutes ∈ qTw := List.mem_filter.mpr ⟨List.mem_append_left _ (List.mem_of_getElem? (i := 26) (by decide +kernel)), rfl⟩
theorem co_X1_fullMinutes : Jvm.Cond.code yX1_fullMinutes cX1_fullMinutes 3 (some .int) ∈ qTw := qm5 (List.mem_of_getElem? (i := 189) (by decide +kernel)) (by decide +kernel)
theorem yk_X1_fullMinutes : qYk yX1_fullMinutes 1 := ⟨⟨by decide +kernel, by decide +kernel⟩, by decide +kernel⟩
theorem ml_X1_181 : Jvm.Cond.methodLink RX1 181 yX1_fullMinutes ∈ qTw := qm5 (List.mem_of_getElem? (i := 186) (by decide +kernel)) (by decide +kernel)
theorem kd_X1_181 {C : qCx} {w : qWp} {cc : ByteArray} {nL dp n0 n1 pc : Nat} (h : qOk C w RX1 cc nL dp n0 n1) (d : decode cc pc = .ok (.invokevirtual 181, 3)) : qCallOk C w nL dp n0 n1 pc 2 1 yX1_fullMinutes (.code yX1_fullMinutes cX1_fullMinutes 3 (some .int)) := kindV h d ml_X1_181 im_X1_fullMinutes se_X1_fullMinutes in_ParentEve_Evening co_X1_fullMinutes yk_X1_fullMinutes (by decide)
theorem im_X1_meet : Jvm.Cond.instanceMethod yX1_meet ∈ qTw := qm5 (List.mem_of_getElem? (i := 193) (by decide +kernel)) (by decide +kernel)
theorem se_X1_meet : Jvm.Cond.selects yX1_meet.cls yX1_meet yX1_meet ∈ qTw := List.mem_filter.mpr ⟨List.mem_append_left _ (List.mem_of_getElem? (i := 27) (by decide +kernel)), rfl⟩
theorem co_X1_meet : Jvm.Cond.code yX1_meet cX1_meet 7 none ∈ qTw := qm5 (List.mem_of_getElem? (i := 194) (by decide +kernel)) (by decide +kernel)
theorem yk_X1_meet : qYk yX1_meet 3 := ⟨⟨by decide +kernel, by decide +kernel⟩, by decide +kernel⟩
theorem ml_X1_184 : Jvm.Cond.methodLink RX1 184 yX1_meet ∈ qTw := qm5 (List.mem_of_getElem? (i := 191) (by decide +kernel)) (by decide +kernel)
theorem kd_X1_184 {C : qCx} {w : qWp} {cc : ByteArray} {nL dp n0 n1 pc : Nat} (h : qOk C w RX1 cc nL dp n0 n1) (d : decode cc pc = .ok (.invokevirtual 184, 3)) : qCallOk C w nL dp n0 n1 pc 4 1 yX1_meet (.code yX1_meet cX1_meet 7 none) := kindV h d ml_X1_184 im_X1_meet se_X1_meet in_ParentEve_Evening co_X1_meet yk_X1_meet (by decide)
theorem dX1_actPlainly_0 : decode cX1_actPlainly 0 = .ok (.aload_n 0, 1) := by decide +kernel
theorem dX1_actPlainly_1 : decode cX1_actPlainly 1 = .ok (.iload_n 1, 1) := by decide +kernel
theorem dX1_actPlainly_2 : decode cX1_actPlainly 2 = .ok (.iload_n 2, 1) := by decide +kernel
theorem dX1_actPlainly_3 : decode cX1_actPlainly 3 = .ok (.invokevirtual 166, 3) := by decide +kernel
theorem dX1_actPlainly_6 : decode cX1_actPlainly 6 = .ok (.ifCond .eq 17, 3) := by decide +kernel
theorem dX1_actPlainly_9 : decode cX1_actPlainly 9 = .ok (.aload_n 0, 1) := by decide +kernel
theorem dX1_actPlainly_10 : decode cX1_actPlainly 10 = .ok (.iload_n 1, 1) := by decide +kernel
theorem dX1_actPlainly_11 : decode cX1_actPlainly 11 = .ok (.iload_n 2, 1) := by decide +kernel
theorem dX1_actPlainly_12 : decode cX1_actPlainly 12 = .ok (.aload_n 0, 1) := by decide +kernel
theorem dX1_actPlainly_13 : decode cX1_actPlainly 13 = .ok (.iload_n 1, 1) := by decide +kernel
theorem dX1_actPlainly_14 : decode cX1_actPlainly 14 = .ok (.invokevirtual 181, 3) := by decide +kernel
theorem dX1_actPlainly_17 : decode cX1_actPlainly 17 = .ok (.invokevirtual 184, 3) := by decide +kernel
theorem dX1_actPlainly_20 : decode cX1_actPlainly 20 = .ok (.goto 20, 3) := by decide +kernel
theorem dX1_actPlainly_23 : decode cX1_actPlainly 23 = .ok (.iload_n 3, 1) := by decide +kernel
theorem dX1_actPlainly_24 : decode cX1_actPlainly 24 = .ok (.aload_n 0, 1) := by decide +kernel
theorem dX1_actPlainly_25 : decode cX1_actPlainly 25 = .ok (.getfield 56, 3) := by decide +kernel
theorem dX1_actPlainly_28 : decode cX1_actPlainly 28 = .ok (.iconst 3, 1) := by decide +kernel
theorem dX1_actPlainly_29 : decode cX1_actPlainly 29 = .ok (.invokevirtual 187, 3) := by decide +kernel
theorem dX1_actPlainly_32 : decode cX1_actPlainly 32 = .ok (.if_icmp .le 8, 3) := by decide +kernel
theorem dX1_actPlainly_35 : decode cX1_actPlainly 35 = .ok (.aload_n 0, 1) := by decide +kernel
theorem dX1_actPlainly_36 : decode cX1_actPlainly 36 = .ok (.iload_n 1, 1) := by decide +kernel
theorem dX1_actPlainly_37 : decode cX1_actPlainly 37 = .ok (.invokevirtual 190, 3) := by decide +kernel
theorem dX1_actPlainly_40 : decode cX1_actPlainly 40 = .ok (.return_, 1) := by decide +kernel
noncomputable def tX1_actPlainly_22 : qT (Unit × qM) :=
  eV
noncomputable def wX1_actPlainly_22 (k : qM → Option (Unit × qM)) : qT (Unit × qM) := fun lo st m => match lo, st with
  | [_, _, _, _], [] => k m
  | _, _ => none
set_option maxRecDepth 20000 in
theorem sX1_actPlainly_22 {C : qCx} {w : qWp} (h : qOk C w RX1 cX1_actPlainly 4 2 155 155) (hm : qMt C none) (hx : qNx C) : qSnd C w 4 155 (qQf C w 155 155 jV) qfin 155 40 (tX1_actPlainly_22) :=
  zV (pc := 40) h hm (Nat.le_refl _) dX1_actPlainly_40
set_option maxRecDepth 20000 in
theorem lX1_actPlainly_22 (m : qM) : tX1_actPlainly_22 [none, none, none, none] [] m = fX1_actPlainly_22 m := rfl
theorem bX1_actPlainly_22 {C : qCx} {w : qWp} (h : qOk C w RX1 cX1_actPlainly 4 2 155 155) (hm : qMt C none) (hx : qNx C) : qSnd C w 4 155 (qQf C w 155 155 jV) qfin 155 40 (wX1_actPlainly_22 fX1_actPlainly_22) :=
  qSnd_of (fun lo st m x hr0 => by
    unfold wX1_actPlainly_22 at hr0
    split at hr0
    · exact ⟨_, (qsub_n (qsub_n (qsub_n (qsub_n qsub_nil)))), (lX1_actPlainly_22 _).trans hr0⟩
    · cases hr0) (sX1_actPlainly_22 h hm hx)
noncomputable def tX1_actPlainly_0 (j22 : qT (Unit × qM)) : qT (Unit × qM) :=
  oLa 0 (oLi 1 (oLi 2 (oCi GX1_isHere 3 (oEq (oLi 3 (oLa 0 (oGf 80 0 4 (oC (.int (3 : Int32)) (oCi GX7_told 2 (oCLe (j22) (oLa 0 (oLi 1 (oCv GX1_drop 2 (j22)))))))))) (oLa 0 (oLi 1 (oLi 2 (oLa 0 (oLi 1 (oCi GX1_fullMinutes 2 (oCv GX1_meet 4 (j22))))))))))))
set_option maxRecDepth 20000 in
theorem sX1_actPlainly_0 {C : qCx} {w : qWp} (h : qOk C w RX1 cX1_actPlainly 4 2 155 155) (hm : qMt C none) (hx : qNx C) {j22 : qT (Unit × qM)} (k22 : qSnd C w 4 155 (qQf C w 155 155 jV) qfin 155 40 j22) : qSnd C w 4 155 (qQf C w 155 155 jV) qfin 155 0 (tX1_actPlainly_0 j22) :=
  cLa (pc := 0) h dX1_actPlainly_0 rfl (cLi (pc := 1) h dX1_actPlainly_1 rfl (cLi (pc := 2) h dX1_actPlainly_2 rfl (kCi (pc := 3) h (kd_X1_166 h dX1_actPlainly_3) spX1_isHere (by decide) (by decide) (by decide) (by decide) (jEq (pc := 6) h dX1_actPlainly_6 rfl (cLi (pc := 23) h dX1_actPlainly_23 rfl (cLa (pc := 24) h dX1_actPlainly_24 rfl (gGf (pc := 25) h dX1_actPlainly_25 ff_X1_56_80 (Nat.le_of_ble_eq_true rfl) (Nat.le_of_ble_eq_true rfl) rfl (cC (pc := 28) h dX1_actPlainly_28 rfl (kCi (pc := 29) h (kd_X1_187 h dX1_actPlainly_29) spX7_told (by decide) (by decide) (by decide) (by decide) (jCLe (pc := 32) h dX1_actPlainly_32 rfl (k22) (cLa (pc := 35) h dX1_actPlainly_35 rfl (cLi (pc := 36) h dX1_actPlainly_36 rfl (kCv (pc := 37) h (kd_X1_190 h dX1_actPlainly_37) spX1_drop (by decide) (by decide) (by decide) (by decide) (k22)))))))))) (cLa (pc := 9) h dX1_actPlainly_9 rfl (cLi (pc := 10) h dX1_actPlainly_10 rfl (cLi (pc := 11) h dX1_actPlainly_11 rfl (cLa (pc := 12) h dX1_actPlainly_12 rfl (cLi (pc := 13) h dX1_actPlainly_13 rfl (kCi (pc := 14) h (kd_X1_181 h dX1_actPlainly_14) spX1_fullMinutes (by decide) (by decide) (by decide) (by decide) (kCv (pc := 17) h (kd_X1_184 h dX1_actPlainly_17) spX1_meet (by decide) (by decide) (by decide) (by decide) (jGo (pc := 20) h dX1_actPlainly_20 rfl (k22)))))))))))))
set_option maxRecDepth 20000 in
theorem lX1_actPlainly_0 (a1 : Int32) (a2 : Int32) (a3 : Int32) (m : qM) : tX1_actPlainly_0 (wX1_actPlainly_22 fX1_actPlainly_22) [some (.ref 80), some (.int a1), some (.int a2), some (.int a3)] [] m = fX1_actPlainly_0 a1 a2 a3 m := rfl
noncomputable def GX1_actPlainly : qG Unit := fun av m => match av with
  | [.ref 80, .int a1, .int a2, .int a3] => fX1_actPlainly a1 a2 a3 m
  | _ => none
theorem spX1_actPlainly : qSpV yX1_actPlainly (.code yX1_actPlainly cX1_actPlainly 4 none) 2 qfin 155 155 1 GX1_actPlainly := by
  intro av m m' hG
  unfold GX1_actPlainly at hG
  split at hG
  · rename_i a1 a2 a3
    rw [fX1_actPlainly_d] at hG
    exact ⟨qmeet (J := jV) (r := ((), m')) (av := [.ref 80, .int a1, .int a2, .int a3]) (by decide +kernel) (Nat.le_of_ble_eq_true rfl) (fun C w h hm hx hn => sX1_actPlainly_0 h hm hx (bX1_actPlainly_22 h hm hx)) ((lX1_actPlainly_0 _ _ _ _).trans hG) (Nat.le_of_ble_eq_true rfl), Or.inl ⟨80, _, 1, _, _, rfl, by decide, rfl, qCk_1, rfl⟩⟩
  · cases hG
theorem ffp_X5_24_0 {r : Nat} (hr : qpol r = true) : qFd RX5 24 r 5 4 3 := by
  rcases qpol_cases hr with rfl | rfl | rfl | rfl | rfl <;> exact ⟨mf_X5_24, rfl, by decide, rfl⟩
theorem fp_fin_4 {r : Nat} (hr : qpol r = true) : qfin r 4 = some (r + 5) := by
  rcases qpol_cases hr with rfl | rfl | rfl | rfl | rfl <;> rfl
theorem fp_hs_5 {r : Nat} (hr : qpol r = true) : qsh (r + 5) = (1, 8) := by
  rcases qpol_cases hr with rfl | rfl | rfl | rfl | rfl <;> rfl
theorem fp_hn_5 {r : Nat} (hr : qpol r = true) : r + 5 < 155 := by
  rcases qpol_cases hr with rfl | rfl | rfl | rfl | rfl <;> decide
theorem dX5_actOf_0 : decode cX5_actOf 0 = .ok (.iload_n 1, 1) := by decide +kernel
theorem dX5_actOf_1 : decode cX5_actOf 1 = .ok (.iconst 0, 1) := by decide +kernel
theorem dX5_actOf_2 : decode cX5_actOf 2 = .ok (.bipush 7, 2) := by decide +kernel
theorem dX5_actOf_4 : decode cX5_actOf 4 = .ok (.invokestatic 34, 3) := by decide +kernel
theorem dX5_actOf_7 : decode cX5_actOf 7 = .ok (.ifCond .eq 12, 3) := by decide +kernel
theorem dX5_actOf_10 : decode cX5_actOf 10 = .ok (.aload_n 0, 1) := by decide +kernel
theorem dX5_actOf_11 : decode cX5_actOf 11 = .ok (.getfield 24, 3) := by decide +kernel
theorem dX5_actOf_14 : decode cX5_actOf 14 = .ok (.iload_n 1, 1) := by decide +kernel
theorem dX5_actOf_15 : decode cX5_actOf 15 = .ok (.iaload, 1) := by decide +kernel
theorem dX5_actOf_16 : decode cX5_actOf 16 = .ok (.goto 4, 3) := by decide +kernel
theorem dX5_actOf_19 : decode cX5_actOf 19 = .ok (.iconst (-1), 1) := by decide +kernel
theorem dX5_actOf_20 : decode cX5_actOf 20 = .ok (.ireturn, 1) := by decide +kernel
noncomputable def tX5_actOf_11 (r : Nat) : qT (Int32 × qM) :=
  eI
noncomputable def wX5_actOf_11 (r : Nat) (k : Int32 → qM → Option (Int32 × qM)) : qT (Int32 × qM) := fun lo st m => match lo, st with
  | [_, _], [.int s0] => k s0 m
  | _, _ => none
set_option maxRecDepth 20000 in
theorem sX5_actOf_11 {C : qCx} {w : qWp} {r : Nat} (h : qOk C w RX5 cX5_actOf 2 1 155 155) (hm : qMt C (some .int)) (hx : qNx C) (hr : qpol r = true) : qSnd C w 2 155 (qQf C w 155 155 jI) qfin 155 20 (tX5_actOf_11 r) :=
  zI (pc := 20) h hm (Nat.le_refl _) dX5_actOf_20
set_option maxRecDepth 20000 in
theorem lX5_actOf_11 (r : Nat) (hr : qpol r = true) (s0 : Int32) (m : qM) : tX5_actOf_11 r [none, none] [(.int s0)] m = fX5_actOf_11 r s0 m := by
  rcases qpol_cases hr with rfl | rfl | rfl | rfl | rfl <;> rfl
theorem bX5_actOf_11 {C : qCx} {w : qWp} {r : Nat} (h : qOk C w RX5 cX5_actOf 2 1 155 155) (hm : qMt C (some .int)) (hx : qNx C) (hr : qpol r = true) : qSnd C w 2 155 (qQf C w 155 155 jI) qfin 155 20 (wX5_actOf_11 r (fX5_actOf_11 r)) :=
  qSnd_of (fun lo st m x hr0 => by
    unfold wX5_actOf_11 at hr0
    split at hr0
    · exact ⟨_, (qsub_n (qsub_n qsub_nil)), (lX5_actOf_11 r hr _ _).trans hr0⟩
    · cases hr0) (sX5_actOf_11 h hm hx hr)
noncomputable def tX5_actOf_0 (r : Nat) (j11 : qT (Int32 × qM)) : qT (Int32 × qM) :=
  oLi 1 (oC (.int (0 : Int32)) (oC (.int (7 : Int32)) (oCi GX11_within 3 (oEq (oC (.int (-1 : Int32)) (j11)) (oLa 0 (oGf r 4 (r + 5) (oLi 1 (oAi (r + 5) 8 (j11)))))))))
set_option maxRecDepth 20000 in
theorem sX5_actOf_0 {C : qCx} {w : qWp} {r : Nat} (h : qOk C w RX5 cX5_actOf 2 1 155 155) (hm : qMt C (some .int)) (hx : qNx C) (hr : qpol r = true) {j11 : qT (Int32 × qM)} (k11 : qSnd C w 2 155 (qQf C w 155 155 jI) qfin 155 20 j11) : qSnd C w 2 155 (qQf C w 155 155 jI) qfin 155 0 (tX5_actOf_0 r j11) :=
  cLi (pc := 0) h dX5_actOf_0 rfl (cC (pc := 1) h dX5_actOf_1 rfl (cB (pc := 2) h dX5_actOf_2 rfl (kCi (pc := 4) h (kd_X5_34 h dX5_actOf_4) spX11_within (by decide) (by decide) (by decide) (by decide) (jEq (pc := 7) h dX5_actOf_7 rfl (cC (pc := 19) h dX5_actOf_19 rfl (k11)) (cLa (pc := 10) h dX5_actOf_10 rfl (gGf (pc := 11) h dX5_actOf_11 (ffp_X5_24_0 hr) (fp_hn_0 hr) (by decide) (fp_fin_4 hr) (cLi (pc := 14) h dX5_actOf_14 rfl (rAi (pc := 15) h dX5_actOf_15 (fp_hs_5 hr) (fp_hn_5 hr) (by decide) (jGo (pc := 16) h dX5_actOf_16 rfl (k11))))))))))
set_option maxRecDepth 20000 in
theorem lX5_actOf_0 (r : Nat) (hr : qpol r = true) (a1 : Int32) (m : qM) : tX5_actOf_0 r (wX5_actOf_11 r (fX5_actOf_11 r)) [some (.ref r), some (.int a1)] [] m = fX5_actOf_0 r a1 m := by
  rcases qpol_cases hr with rfl | rfl | rfl | rfl | rfl <;> rfl
noncomputable def GX5_actOf : qG Int32 := fun av m => match av with
  | [.ref r, .int a1] => bif qpol r then fX5_actOf r a1 m else none
  | _ => none
theorem spX5_actOf : qSpI yX5_actOf (.code yX5_actOf cX5_actOf 2 (some .int)) 1 qfin 155 155 1 GX5_actOf := by
  intro av m x m' hG
  unfold GX5_actOf at hG
  split at hG
  · rename_i r a1
    obtain ⟨hr, hG⟩ := qbt hG
    rw [fX5_actOf_d] at hG
    exact ⟨qmeet (J := jI) (r := (x, m')) (av := [.ref r, .int a1]) (by decide +kernel) (Nat.le_of_ble_eq_true rfl) (fun C w h hm hx hn => sX5_actOf_0 h hm hx hr (bX5_actOf_11 h hm hx hr)) ((lX5_actOf_0 _ hr _ _).trans hG) (Nat.le_of_ble_eq_true rfl), qRc_pol hr rfl⟩
  · cases hG
theorem ffp_X5_27_0 {r : Nat} (hr : qpol r = true) : qFd RX5 27 r 5 5 3 := by
  rcases qpol_cases hr with rfl | rfl | rfl | rfl | rfl <;> exact ⟨mf_X5_27, rfl, by decide, rfl⟩
theorem fp_fin_5 {r : Nat} (hr : qpol r = true) : qfin r 5 = some (r + 6) := by
  rcases qpol_cases hr with rfl | rfl | rfl | rfl | rfl <;> rfl
theorem fp_hs_6 {r : Nat} (hr : qpol r = true) : qsh (r + 6) = (1, 8) := by
  rcases qpol_cases hr with rfl | rfl | rfl | rfl | rfl <;> rfl
theorem fp_hn_6 {r : Nat} (hr : qpol r = true) : r + 6 < 155 := by
  rcases qpol_cases hr with rfl | rfl | rfl | rfl | rfl <;> decide
theorem dX5_actNumberOf_0 : decode cX5_actNumberOf 0 = .ok (.iload_n 1, 1) := by decide +kernel
theorem dX5_actNumberOf_1 : decode cX5_actNumberOf 1 = .ok (.iconst 0, 1) := by decide +kernel
theorem dX5_actNumberOf_2 : decode cX5_actNumberOf 2 = .ok (.bipush 7, 2) := by decide +kernel
theorem dX5_actNumberOf_4 : decode cX5_actNumberOf 4 = .ok (.invokestatic 34, 3) := by decide +kernel
theorem dX5_actNumberOf_7 : decode cX5_actNumberOf 7 = .ok (.ifCond .eq 12, 3) := by decide +kernel
theorem dX5_actNumberOf_10 : decode cX5_actNumberOf 10 = .ok (.aload_n 0, 1) := by decide +kernel
theorem dX5_actNumberOf_11 : decode cX5_actNumberOf 11 = .ok (.getfield 27, 3) := by decide +kernel
theorem dX5_actNumberOf_14 : decode cX5_actNumberOf 14 = .ok (.iload_n 1, 1) := by decide +kernel
theorem dX5_actNumberOf_15 : decode cX5_actNumberOf 15 = .ok (.iaload, 1) := by decide +kernel
theorem dX5_actNumberOf_16 : decode cX5_actNumberOf 16 = .ok (.goto 4, 3) := by decide +kernel
theorem dX5_actNumberOf_19 : decode cX5_actNumberOf 19 = .ok (.iconst 0, 1) := by decide +kernel
theorem dX5_actNumberOf_20 : decode cX5_actNumberOf 20 = .ok (.ireturn, 1) := by decide +kernel
noncomputable def tX5_actNumberOf_11 (r : Nat) : qT (Int32 × qM) :=
  eI
noncomputable def wX5_actNumberOf_11 (r : Nat) (k : Int32 → qM → Option (Int32 × qM)) : qT (Int32 × qM) := fun lo st m => match lo, st with
  | [_, _], [.int s0] => k s0 m
  | _, _ => none
set_option maxRecDepth 20000 in
theorem sX5_actNumberOf_11 {C : qCx} {w : qWp} {r : Nat} (h : qOk C w RX5 cX5_actNumberOf 2 1 155 155) (hm : qMt C (some .int)) (hx : qNx C) (hr : qpol r = true) : qSnd C w 2 155 (qQf C w 155 155 jI) qfin 155 20 (tX5_actNumberOf_11 r) :=
  zI (pc := 20) h hm (Nat.le_refl _) dX5_actNumberOf_20
set_option maxRecDepth 20000 in
theorem lX5_actNumberOf_11 (r : Nat) (hr : qpol r = true) (s0 : Int32) (m : qM) : tX5_actNumberOf_11 r [none, none] [(.int s0)] m = fX5_actNumberOf_11 r s0 m := by
  rcases qpol_cases hr with rfl | rfl | rfl | rfl | rfl <;> rfl
theorem bX5_actNumberOf_11 {C : qCx} {w : qWp} {r : Nat} (h : qOk C w RX5 cX5_actNumberOf 2 1 155 155) (hm : qMt C (some .int)) (hx : qNx C) (hr : qpol r = true) : qSnd C w 2 155 (qQf C w 155 155 jI) qfin 155 20 (wX5_actNumberOf_11 r (fX5_actNumberOf_11 r)) :=
  qSnd_of (fun lo st m x hr0 => by
    unfold wX5_actNumberOf_11 at hr0
    split at hr0
    · exact ⟨_, (qsub_n (qsub_n qsub_nil)), (lX5_actNumberOf_11 r hr _ _).trans hr0⟩
    · cases hr0) (sX5_actNumberOf_11 h hm hx hr)
noncomputable def tX5_actNumberOf_0 (r : Nat) (j11 : qT (Int32 × qM)) : qT (Int32 × qM) :=
  oLi 1 (oC (.int (0 : Int32)) (oC (.int (7 : Int32)) (oCi GX11_within 3 (oEq (oC (.int (0 : Int32)) (j11)) (oLa 0 (oGf r 5 (r + 6) (oLi 1 (oAi (r + 6) 8 (j11)))))))))
set_option maxRecDepth 20000 in
theorem sX5_actNumberOf_0 {C : qCx} {w : qWp} {r : Nat} (h : qOk C w RX5 cX5_actNumberOf 2 1 155 155) (hm : qMt C (some .int)) (hx : qNx C) (hr : qpol r = true) {j11 : qT (Int32 × qM)} (k11 : qSnd C w 2 155 (qQf C w 155 155 jI) qfin 155 20 j11) : qSnd C w 2 155 (qQf C w 155 155 jI) qfin 155 0 (tX5_actNumberOf_0 r j11) :=
  cLi (pc := 0) h dX5_actNumberOf_0 rfl (cC (pc := 1) h dX5_actNumberOf_1 rfl (cB (pc := 2) h dX5_actNumberOf_2 rfl (kCi (pc := 4) h (kd_X5_34 h dX5_actNumberOf_4) spX11_within (by decide) (by decide) (by decide) (by decide) (jEq (pc := 7) h dX5_actNumberOf_7 rfl (cC (pc := 19) h dX5_actNumberOf_19 rfl (k11)) (cLa (pc := 10) h dX5_actNumberOf_10 rfl (gGf (pc := 11) h dX5_actNumberOf_11 (ffp_X5_27_0 hr) (fp_hn_0 hr) (by decide) (fp_fin_5 hr) (cLi (pc := 14) h dX5_actNumberOf_14 rfl (rAi (pc := 15) h dX5_actNumberOf_15 (fp_hs_6 hr) (fp_hn_6 hr) (by decide) (jGo (pc := 16) h dX5_actNumberOf_16 rfl (k11))))))))))
set_option maxRecDepth 20000 in
theorem lX5_actNumberOf_0 (r : Nat) (hr : qpol r = true) (a1 : Int32) (m : qM) : tX5_actNumberOf_0 r (wX5_actNumberOf_11 r (fX5_actNumberOf_11 r)) [some (.ref r), some (.int a1)] [] m = fX5_actNumberOf_0 r a1 m := by
  rcases qpol_cases hr with rfl | rfl | rfl | rfl | rfl <;> rfl
noncomputable def GX5_actNumberOf : qG Int32 := fun av m => match av with
  | [.ref r, .int a1] => bif qpol r then fX5_actNumberOf r a1 m else none
  | _ => none
theorem spX5_actNumberOf : qSpI yX5_actNumberOf (.code yX5_actNumberOf cX5_actNumberOf 2 (some .int)) 1 qfin 155 155 1 GX5_actNumberOf := by
  intro av m x m' hG
  unfold GX5_actNumberOf at hG
  split at hG
  · rename_i r a1
    obtain ⟨hr, hG⟩ := qbt hG
    rw [fX5_actNumberOf_d] at hG
    exact ⟨qmeet (J := jI) (r := (x, m')) (av := [.ref r, .int a1]) (by decide +kernel) (Nat.le_of_ble_eq_true rfl) (fun C w h hm hx hn => sX5_actNumberOf_0 h hm hx hr (bX5_actNumberOf_11 h hm hx hr)) ((lX5_actNumberOf_0 _ hr _ _).trans hG) (Nat.le_of_ble_eq_true rfl), qRc_pol hr rfl⟩
  · cases hG
theorem dX1_meetIfHere_0 : decode cX1_meetIfHere 0 = .ok (.aload_n 0, 1) := by decide +kernel
theorem dX1_meetIfHere_1 : decode cX1_meetIfHere 1 = .ok (.iload_n 1, 1) := by decide +kernel
theorem dX1_meetIfHere_2 : decode cX1_meetIfHere 2 = .ok (.iload_n 2, 1) := by decide +kernel
theorem dX1_meetIfHere_3 : decode cX1_meetIfHere 3 = .ok (.invokevirtual 166, 3) := by decide +kernel
theorem dX1_meetIfHere_6 : decode cX1_meetIfHere 6 = .ok (.ifCond .eq 10, 3) := by decide +kernel
theorem dX1_meetIfHere_9 : decode cX1_meetIfHere 9 = .ok (.aload_n 0, 1) := by decide +kernel
theorem dX1_meetIfHere_10 : decode cX1_meetIfHere 10 = .ok (.iload_n 1, 1) := by decide +kernel
theorem dX1_meetIfHere_11 : decode cX1_meetIfHere 11 = .ok (.iload_n 2, 1) := by decide +kernel
theorem dX1_meetIfHere_12 : decode cX1_meetIfHere 12 = .ok (.iload_n 3, 1) := by decide +kernel
theorem dX1_meetIfHere_13 : decode cX1_meetIfHere 13 = .ok (.invokevirtual 184, 3) := by decide +kernel
theorem dX1_meetIfHere_16 : decode cX1_meetIfHere 16 = .ok (.return_, 1) := by decide +kernel
noncomputable def tX1_meetIfHere_10 : qT (Unit × qM) :=
  eV
noncomputable def wX1_meetIfHere_10 (k : qM → Option (Unit × qM)) : qT (Unit × qM) := fun lo st m => match lo, st with
  | [_, _, _, _], [] => k m
  | _, _ => none
set_option maxRecDepth 20000 in
theorem sX1_meetIfHere_10 {C : qCx} {w : qWp} (h : qOk C w RX1 cX1_meetIfHere 4 2 155 155) (hm : qMt C none) (hx : qNx C) : qSnd C w 4 155 (qQf C w 155 155 jV) qfin 155 16 (tX1_meetIfHere_10) :=
  zV (pc := 16) h hm (Nat.le_refl _) dX1_meetIfHere_16
set_option maxRecDepth 20000 in
theorem lX1_meetIfHere_10 (m : qM) : tX1_meetIfHere_10 [none, none, none, none] [] m = fX1_meetIfHere_10 m := rfl
theorem bX1_meetIfHere_10 {C : qCx} {w : qWp} (h : qOk C w RX1 cX1_meetIfHere 4 2 155 155) (hm : qMt C none) (hx : qNx C) : qSnd C w 4 155 (qQf C w 155 155 jV) qfin 155 16 (wX1_meetIfHere_10 fX1_meetIfHere_10) :=
  qSnd_of (fun lo st m x hr0 => by
    unfold wX1_meetIfHere_10 at hr0
    split at hr0
    · exact ⟨_, (qsub_n (qsub_n (qsub_n (qsub_n qsub_nil)))), (lX1_meetIfHere_10 _).trans hr0⟩
    · cases hr0) (sX1_meetIfHere_10 h hm hx)
noncomputable def tX1_meetIfHere_0 (j10 : qT (Unit × qM)) : qT (Unit × qM) :=
  oLa 0 (oLi 1 (oLi 2 (oCi GX1_isHere 3 (oEq (j10) (oLa 0 (oLi 1 (oLi 2 (oLi 3 (oCv GX1_meet 4 (j10))))))))))
set_option maxRecDepth 20000 in
theorem sX1_meetIfHere_0 {C : qCx} {w : qWp} (h : qOk C w RX1 cX1_meetIfHere 4 2 155 155) (hm : qMt C none) (hx : qNx C) {j10 : qT (Unit × qM)} (k10 : qSnd C w 4 155 (qQf C w 155 155 jV) qfin 155 16 j10) : qSnd C w 4 155 (qQf C w 155 155 jV) qfin 155 0 (tX1_meetIfHere_0 j10) :=
  cLa (pc := 0) h dX1_meetIfHere_0 rfl (cLi (pc := 1) h dX1_meetIfHere_1 rfl (cLi (pc := 2) h dX1_meetIfHere_2 rfl (kCi (pc := 3) h (kd_X1_166 h dX1_meetIfHere_3) spX1_isHere (by decide) (by decide) (by decide) (by decide) (jEq (pc := 6) h dX1_meetIfHere_6 rfl (k10) (cLa (pc := 9) h dX1_meetIfHere_9 rfl (cLi (pc := 10) h dX1_meetIfHere_10 rfl (cLi (pc := 11) h dX1_meetIfHere_11 rfl (cLi (pc := 12) h dX1_meetIfHere_12 rfl (kCv (pc := 13) h (kd_X1_184 h dX1_meetIfHere_13) spX1_meet (by decide) (by decide) (by decide) (by decide) (k10))))))))))
set_option maxRecDepth 20000 in
theorem lX1_meetIfHere_0 (a1 : Int32) (a2 : Int32) (a3 : Int32) (m : qM) : tX1_meetIfHere_0 (wX1_meetIfHere_10 fX1_meetIfHere_10) [some (.ref 80), some (.int a1), some (.int a2), some (.int a3)] [] m = fX1_meetIfHere_0 a1 a2 a3 m := rfl
noncomputable def GX1_meetIfHere : qG Unit := fun av m => match av with
  | [.ref 80, .int a1, .int a2, .int a3] => fX1_meetIfHere a1 a2 a3 m
  | _ => none
theorem spX1_meetIfHere : qSpV yX1_meetIfHere (.code yX1_meetIfHere cX1_meetIfHere 4 none) 2 qfin 155 155 1 GX1_meetIfHere := by
  intro av m m' hG
  unfold GX1_meetIfHere at hG
  split at hG
  · rename_i a1 a2 a3
    rw [fX1_meetIfHere_d] at hG
    exact ⟨qmeet (J := jV) (r := ((), m')) (av := [.ref 80, .int a1, .int a2, .int a3]) (by decide +kernel) (Nat.le_of_ble_eq_true rfl) (fun C w h hm hx hn => sX1_meetIfHere_0 h hm hx (bX1_meetIfHere_10 h hm hx)) ((lX1_meetIfHere_0 _ _ _ _).trans hG) (Nat.le_of_ble_eq_true rfl), Or.inl ⟨80, _, 1, _, _, rfl, by decide, rfl, qCk_1, rfl⟩⟩
  · cases hG
theorem dX1_meetOneBehind_0 : decode cX1_meetOneBehind 0 = .ok (.aload_n 0, 1) := by decide +kernel
theorem dX1_meetOneBehind_1 : decode cX1_meetOneBehind 1 = .ok (.getfield 68, 3) := by decide +kernel
theorem dX1_meetOneBehind_4 : decode cX1_meetOneBehind 4 = .ok (.iload_n 1, 1) := by decide +kernel
theorem dX1_meetOneBehind_5 : decode cX1_meetOneBehind 5 = .ok (.invokevirtual 159, 3) := by decide +kernel
theorem dX1_meetOneBehind_8 : decode cX1_meetOneBehind 8 = .ok (.istore_n 3, 1) := by decide +kernel
theorem dX1_meetOneBehind_9 : decode cX1_meetOneBehind 9 = .ok (.aload_n 0, 1) := by decide +kernel
theorem dX1_meetOneBehind_10 : decode cX1_meetOneBehind 10 = .ok (.getfield 68, 3) := by decide +kernel
theorem dX1_meetOneBehind_13 : decode cX1_meetOneBehind 13 = .ok (.iload_n 1, 1) := by decide +kernel
theorem dX1_meetOneBehind_14 : decode cX1_meetOneBehind 14 = .ok (.invokevirtual 169, 3) := by decide +kernel
theorem dX1_meetOneBehind_17 : decode cX1_meetOneBehind 17 = .ok (.iconst 1, 1) := by decide +kernel
theorem dX1_meetOneBehind_18 : decode cX1_meetOneBehind 18 = .ok (.iadd, 1) := by decide +kernel
theorem dX1_meetOneBehind_19 : decode cX1_meetOneBehind 19 = .ok (.istore 4, 2) := by decide +kernel
theorem dX1_meetOneBehind_21 : decode cX1_meetOneBehind 21 = .ok (.iload 4, 2) := by decide +kernel
theorem dX1_meetOneBehind_23 : decode cX1_meetOneBehind 23 = .ok (.bipush 20, 2) := by decide +kernel
theorem dX1_meetOneBehind_25 : decode cX1_meetOneBehind 25 = .ok (.if_icmp .ge 59, 3) := by decide +kernel
theorem dX1_meetOneBehind_28 : decode cX1_meetOneBehind 28 = .ok (.aload_n 0, 1) := by decide +kernel
theorem dX1_meetOneBehind_29 : decode cX1_meetOneBehind 29 = .ok (.getfield 68, 3) := by decide +kernel
theorem dX1_meetOneBehind_32 : decode cX1_meetOneBehind 32 = .ok (.iload_n 3, 1) := by decide +kernel
theorem dX1_meetOneBehind_33 : decode cX1_meetOneBehind 33 = .ok (.iload 4, 2) := by decide +kernel
theorem dX1_meetOneBehind_35 : decode cX1_meetOneBehind 35 = .ok (.invokevirtual 127, 3) := by decide +kernel
theorem dX1_meetOneBehind_38 : decode cX1_meetOneBehind 38 = .ok (.istore 5, 2) := by decide +kernel
theorem dX1_meetOneBehind_40 : decode cX1_meetOneBehind 40 = .ok (.aload_n 0, 1) := by decide +kernel
theorem dX1_meetOneBehind_41 : decode cX1_meetOneBehind 41 = .ok (.getfield 32, 3) := by decide +kernel
theorem dX1_meetOneBehind_44 : decode cX1_meetOneBehind 44 = .ok (.iload_n 3, 1) := by decide +kernel
theorem dX1_meetOneBehind_45 : decode cX1_meetOneBehind 45 = .ok (.iaload, 1) := by decide +kernel
theorem dX1_meetOneBehind_46 : decode cX1_meetOneBehind 46 = .ok (.iload 4, 2) := by decide +kernel
theorem dX1_meetOneBehind_48 : decode cX1_meetOneBehind 48 = .ok (.invokestatic 162, 3) := by decide +kernel
theorem dX1_meetOneBehind_51 : decode cX1_meetOneBehind 51 = .ok (.ifCond .eq 27, 3) := by decide +kernel
theorem dX1_meetOneBehind_54 : decode cX1_meetOneBehind 54 = .ok (.aload_n 0, 1) := by decide +kernel
theorem dX1_meetOneBehind_55 : decode cX1_meetOneBehind 55 = .ok (.iload 5, 2) := by decide +kernel
theorem dX1_meetOneBehind_57 : decode cX1_meetOneBehind 57 = .ok (.iload_n 2, 1) := by decide +kernel
theorem dX1_meetOneBehind_58 : decode cX1_meetOneBehind 58 = .ok (.invokevirtual 166, 3) := by decide +kernel
theorem dX1_meetOneBehind_61 : decode cX1_meetOneBehind 61 = .ok (.ifCond .eq 17, 3) := by decide +kernel
theorem dX1_meetOneBehind_64 : decode cX1_meetOneBehind 64 = .ok (.aload_n 0, 1) := by decide +kernel
theorem dX1_meetOneBehind_65 : decode cX1_meetOneBehind 65 = .ok (.iload 5, 2) := by decide +kernel
theorem dX1_meetOneBehind_67 : decode cX1_meetOneBehind 67 = .ok (.iload_n 2, 1) := by decide +kernel
theorem dX1_meetOneBehind_68 : decode cX1_meetOneBehind 68 = .ok (.aload_n 0, 1) := by decide +kernel
theorem dX1_meetOneBehind_69 : decode cX1_meetOneBehind 69 = .ok (.iload 5, 2) := by decide +kernel
theorem dX1_meetOneBehind_71 : decode cX1_meetOneBehind 71 = .ok (.invokevirtual 181, 3) := by decide +kernel
theorem dX1_meetOneBehind_74 : decode cX1_meetOneBehind 74 = .ok (.invokevirtual 184, 3) := by decide +kernel
theorem dX1_meetOneBehind_77 : decode cX1_meetOneBehind 77 = .ok (.return_, 1) := by decide +kernel
theorem dX1_meetOneBehind_78 : decode cX1_meetOneBehind 78 = .ok (.iinc 4 1, 3) := by decide +kernel
theorem dX1_meetOneBehind_81 : decode cX1_meetOneBehind 81 = .ok (.goto (-60), 3) := by decide +kernel
theorem dX1_meetOneBehind_84 : decode cX1_meetOneBehind 84 = .ok (.return_, 1) := by decide +kernel
noncomputable def tX1_meetOneBehind_41 (j12 : qT (Unit × qM)) : qT (Unit × qM) :=
  oInc 4 (1 : Int32) (j12)
noncomputable def wX1_meetOneBehind_41 (k : Int32 → Int32 → Int32 → qM → Option (Unit × qM)) : qT (Unit × qM) := fun lo st m => match lo, st with
  | [some (.ref 80), _, some (.int a2), some (.int a3), some (.int a4), _], [] => k a2 a3 a4 m
  | _, _ => none
noncomputable def wX1_meetOneBehind_12 (k : Int32 → Int32 → Int32 → qM → Option (Unit × qM)) : qT (Unit × qM) := fun lo st m => match lo, st with
  | [some (.ref 80), _, some (.int a2), some (.int a3), some (.int a4), _], [] => k a2 a3 a4 m
  | _, _ => none
set_option maxRecDepth 20000 in
theorem sX1_meetOneBehind_41 {C : qCx} {w : qWp} (h : qOk C w RX1 cX1_meetOneBehind 6 2 155 155) (hm : qMt C none) (hx : qNx C) {j12 : qT (Unit × qM)} (k12 : qSnd C w 6 155 (qQf C w 155 155 jV) qfin 155 21 j12) : qSnd C w 6 155 (qQf C w 155 155 jV) qfin 155 78 (tX1_meetOneBehind_41 j12) :=
  cInc (pc := 78) h dX1_meetOneBehind_78 rfl (jGo (pc := 81) h dX1_meetOneBehind_81 rfl (k12))
set_option maxRecDepth 20000 in
theorem lX1_meetOneBehind_41 (k12 : Int32 → Int32 → Int32 → qM → Option (Unit × qM)) (a2 : Int32) (a3 : Int32) (a4 : Int32) (m : qM) : tX1_meetOneBehind_41 (wX1_meetOneBehind_12 k12) [some (.ref 80), none, some (.int a2), some (.int a3), some (.int a4), none] [] m = fX1_meetOneBehind_41 k12 a2 a3 a4 m := rfl
theorem bX1_meetOneBehind_41 {C : qCx} {w : qWp} (h : qOk C w RX1 cX1_meetOneBehind 6 2 155 155) (hm : qMt C none) (hx : qNx C) {k12 : Int32 → Int32 → Int32 → qM → Option (Unit × qM)} (h12 : qSnd C w 6 155 (qQf C w 155 155 jV) qfin 155 21 (wX1_meetOneBehind_12 k12)) : qSnd C w 6 155 (qQf C w 155 155 jV) qfin 155 78 (wX1_meetOneBehind_41 (fX1_meetOneBehind_41 k12)) :=
  qSnd_of (fun lo st m x hr0 => by
    unfold wX1_meetOneBehind_41 at hr0
    split at hr0
    · exact ⟨_, (qsub_e (qsub_n (qsub_e (qsub_e (qsub_e (qsub_n qsub_nil)))))), (lX1_meetOneBehind_41 _ _ _ _ _).trans hr0⟩
    · cases hr0) (sX1_meetOneBehind_41 h hm hx h12)
noncomputable def tX1_meetOneBehind_12 (j41 : qT (Unit × qM)) : qT (Unit × qM) :=
  oLi 4 (oC (.int (20 : Int32)) (oCGe (eV) (oLa 0 (oGf 80 3 58 (oLi 3 (oLi 4 (oCi GX4_askIn 3 (oSi 5 (oLa 0 (oGf 80 11 85 (oLi 3 (oAi 85 10 (oLi 4 (oCi GX11_has 2 (oEq (j41) (oLa 0 (oLi 5 (oLi 2 (oCi GX1_isHere 3 (oEq (j41) (oLa 0 (oLi 5 (oLi 2 (oLa 0 (oLi 5 (oCi GX1_fullMinutes 2 (oCv GX1_meet 4 (eV))))))))))))))))))))))))))))
set_option maxRecDepth 20000 in
theorem sX1_meetOneBehind_12 {C : qCx} {w : qWp} (h : qOk C w RX1 cX1_meetOneBehind 6 2 155 155) (hm : qMt C none) (hx : qNx C) {j41 : qT (Unit × qM)} (k41 : qSnd C w 6 155 (qQf C w 155 155 jV) qfin 155 78 j41) : qSnd C w 6 155 (qQf C w 155 155 jV) qfin 155 21 (tX1_meetOneBehind_12 j41) :=
  cLI (pc := 21) h dX1_meetOneBehind_21 (cB (pc := 23) h dX1_meetOneBehind_23 rfl (jCGe (pc := 25) h dX1_meetOneBehind_25 rfl (zV (pc := 84) h hm (Nat.le_refl _) dX1_meetOneBehind_84) (cLa (pc := 28) h dX1_meetOneBehind_28 rfl (gGf (pc := 29) h dX1_meetOneBehind_29 ff_X1_68_80 (Nat.le_of_ble_eq_true rfl) (Nat.le_of_ble_eq_true rfl) rfl (cLi (pc := 32) h dX1_meetOneBehind_32 rfl (cLI (pc := 33) h dX1_meetOneBehind_33 (kCi (pc := 35) h (kd_X1_127 h dX1_meetOneBehind_35) spX4_askIn (by decide) (by decide) (by decide) (by decide) (cSI (pc := 38) h dX1_meetOneBehind_38 (cLa (pc := 40) h dX1_meetOneBehind_40 rfl (gGf (pc := 41) h dX1_meetOneBehind_41 ff_X1_32_80 (Nat.le_of_ble_eq_true rfl) (Nat.le_of_ble_eq_true rfl) rfl (cLi (pc := 44) h dX1_meetOneBehind_44 rfl (rAi (pc := 45) h dX1_meetOneBehind_45 rfl (Nat.le_of_ble_eq_true rfl) (Nat.le_of_ble_eq_true rfl) (cLI (pc := 46) h dX1_meetOneBehind_46 (kCi (pc := 48) h (kd_X1_162 h dX1_meetOneBehind_48) spX11_has (by decide) (by decide) (by decide) (by decide) (jEq (pc := 51) h dX1_meetOneBehind_51 rfl (k41) (cLa (pc := 54) h dX1_meetOneBehind_54 rfl (cLI (pc := 55) h dX1_meetOneBehind_55 (cLi (pc := 57) h dX1_meetOneBehind_57 rfl (kCi (pc := 58) h (kd_X1_166 h dX1_meetOneBehind_58) spX1_isHere (by decide) (by decide) (by decide) (by decide) (jEq (pc := 61) h dX1_meetOneBehind_61 rfl (k41) (cLa (pc := 64) h dX1_meetOneBehind_64 rfl (cLI (pc := 65) h dX1_meetOneBehind_65 (cLi (pc := 67) h dX1_meetOneBehind_67 rfl (cLa (pc := 68) h dX1_meetOneBehind_68 rfl (cLI (pc := 69) h dX1_meetOneBehind_69 (kCi (pc := 71) h (kd_X1_181 h dX1_meetOneBehind_71) spX1_fullMinutes (by decide) (by decide) (by decide) (by decide) (kCv (pc := 74) h (kd_X1_184 h dX1_meetOneBehind_74) spX1_meet (by decide) (by decide) (by decide) (by decide) (zV (pc := 77) h hm (Nat.le_refl _) dX1_meetOneBehind_77))))))))))))))))))))))))))))
set_option maxRecDepth 20000 in
theorem lX1_meetOneBehind_12 (n : Nat) (a2 : Int32) (a3 : Int32) (a4 : Int32) (m : qM) : tX1_meetOneBehind_12 (wX1_meetOneBehind_41 (fX1_meetOneBehind_41 (fX1_meetOneBehind_12 n))) [some (.ref 80), none, some (.int a2), some (.int a3), some (.int a4), none] [] m = fX1_meetOneBehind_12 (n + 1) a2 a3 a4 m := rfl
theorem bX1_meetOneBehind_12 {C : qCx} {w : qWp} (h : qOk C w RX1 cX1_meetOneBehind 6 2 155 155) (hm : qMt C none) (hx : qNx C) : ∀ n : Nat, qSnd C w 6 155 (qQf C w 155 155 jV) qfin 155 21 (wX1_meetOneBehind_12 (fX1_meetOneBehind_12 n))
  | 0 => qSnd_of0 (fun lo st m x hr0 => by
    unfold wX1_meetOneBehind_12 at hr0
    split at hr0
    · cases hr0
    · cases hr0)
  | n + 1 => by
    have ih := bX1_meetOneBehind_12 h hm hx n
    exact qSnd_of (fun lo st m x hr0 => by
    unfold wX1_meetOneBehind_12 at hr0
    split at hr0
    · exact ⟨_, (qsub_e (qsub_n (qsub_e (qsub_e (qsub_e (qsub_n qsub_nil)))))), (lX1_meetOneBehind_12 n _ _ _ _).trans hr0⟩
    · cases hr0) (sX1_meetOneBehind_12 h hm hx (bX1_meetOneBehind_41 h hm hx ih))
noncomputable def tX1_meetOneBehind_0 (j12 : qT (Unit × qM)) : qT (Unit × qM) :=
  oLa 0 (oGf 80 3 58 (oLi 1 (oCi GX4_teacherOf 2 (oSi 3 (oLa 0 (oGf 80 3 58 (oLi 1 (oCi GX4_slotOf 2 (oC (.int (1 : Int32)) (o2 (· + ·) (oSi 4 (j12))))))))))))
set_option maxRecDepth 20000 in
theorem sX1_meetOneBehind_0 {C : qCx} {w : qWp} (h : qOk C w RX1 cX1_meetOneBehind 6 2 155 155) (hm : qMt C none) (hx : qNx C) {j12 : qT (Unit × qM)} (k12 : qSnd C w 6 155 (qQf C w 155 155 jV) qfin 155 21 j12) : qSnd C w 6 155 (qQf C w 155 155 jV) qfin 155 0 (tX1_meetOneBehind_0 j12) :=
  cLa (pc := 0) h dX1_meetOneBehind_0 rfl (gGf (pc := 1) h dX1_meetOneBehind_1 ff_X1_68_80 (Nat.le_of_ble_eq_true rfl) (Nat.le_of_ble_eq_true rfl) rfl (cLi (pc := 4) h dX1_meetOneBehind_4 rfl (kCi (pc := 5) h (kd_X1_159 h dX1_meetOneBehind_5) spX4_teacherOf (by decide) (by decide) (by decide) (by decide) (cSi (pc := 8) h dX1_meetOneBehind_8 rfl (cLa (pc := 9) h dX1_meetOneBehind_9 rfl (gGf (pc := 10) h dX1_meetOneBehind_10 ff_X1_68_80 (Nat.le_of_ble_eq_true rfl) (Nat.le_of_ble_eq_true rfl) rfl (cLi (pc := 13) h dX1_meetOneBehind_13 rfl (kCi (pc := 14) h (kd_X1_169 h dX1_meetOneBehind_14) spX4_slotOf (by decide) (by decide) (by decide) (by decide) (cC (pc := 17) h dX1_meetOneBehind_17 rfl (aAdd (pc := 18) h dX1_meetOneBehind_18 (cSI (pc := 19) h dX1_meetOneBehind_19 (k12))))))))))))
set_option maxRecDepth 20000 in
theorem lX1_meetOneBehind_0 (a1 : Int32) (a2 : Int32) (m : qM) : tX1_meetOneBehind_0 (wX1_meetOneBehind_12 (fX1_meetOneBehind_12 FU)) [some (.ref 80), some (.int a1), some (.int a2), none, none, none] [] m = fX1_meetOneBehind_0 a1 a2 m := rfl
noncomputable def GX1_meetOneBehind : qG Unit := fun av m => match av with
  | [.ref 80, .int a1, .int a2] => fX1_meetOneBehind a1 a2 m
  | _ => none
theorem spX1_meetOneBehind : qSpV yX1_meetOneBehind (.code yX1_meetOneBehind cX1_meetOneBehind 6 none) 2 qfin 155 155 1 GX1_meetOneBehind := by
  intro av m m' hG
  unfold GX1_meetOneBehind at hG
  split at hG
  · rename_i a1 a2
    rw [fX1_meetOneBehind_d] at hG
    exact ⟨qmeet (J := jV) (r := ((), m')) (av := [.ref 80, .int a1, .int a2]) (by decide +kernel) (Nat.le_of_ble_eq_true rfl) (fun C w h hm hx hn => sX1_meetOneBehind_0 h hm hx (bX1_meetOneBehind_12 h hm hx FU)) ((lX1_meetOneBehind_0 _ _ _).trans hG) (Nat.le_of_ble_eq_true rfl), Or.inl ⟨80, _, 1, _, _, rfl, by decide, rfl, qCk_1, rfl⟩⟩
  · cases hG

