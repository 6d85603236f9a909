/-! methods (by program): X4_openSlots, X3_wishOf, J6_bitCount_0f7a4, X11_leastOf, X11_gapsIn, X4_mark, X4_pointsIn, X4_put, X0_layFirst, X0_layThose, X0_layEveryOne, X0_clear, X0_pick, X4_greatestGain, X4_gain, J9_max_f86c9 -/
theorem im_X3_familySlots : Jvm.Cond.instanceMethod yX3_familySlots ∈ qTw := qm4 (List.mem_of_getElem? (i := 63) (by decide +kernel)) (by decide +kernel)
theorem se_X3_familySlots : Jvm.Cond.selects yX3_familySlots.cls yX3_familySlots yX3_familySlots ∈ qTw := qm4 (List.mem_of_getElem? (i := 64) (by decide +kernel)) (by decide +kernel)
theorem co_X3_familySlots : Jvm.Cond.code yX3_familySlots cX3_familySlots 2 (some .int) ∈ qTw := qm4 (List.mem_of_getElem? (i := 65) (by decide +kernel)) (by decide +kernel)
theorem yk_X3_familySlots : qYk yX3_familySlots 1 := ⟨⟨by decide +kernel, by decide +kernel⟩, by decide +kernel⟩
theorem ml_X4_88 : Jvm.Cond.methodLink RX4 88 yX3_familySlots ∈ qTw := qm4 (List.mem_of_getElem? (i := 62) (by decide +kernel)) (by decide +kernel)
theorem kd_X4_88 {C : qCx} {w : qWp} {cc : ByteArray} {nL dp n0 n1 pc : Nat} (h : qOk C w RX4 cc nL dp n0 n1) (d : decode cc pc = .ok (.invokevirtual 88, 3)) : qCallOk C w nL dp n0 n1 pc 2 1 yX3_familySlots (.code yX3_familySlots cX3_familySlots 2 (some .int)) := kindV h d ml_X4_88 im_X3_familySlots se_X3_familySlots in_ParentEve_People co_X3_familySlots yk_X3_familySlots (by decide)
theorem im_X3_teacherSlots : Jvm.Cond.instanceMethod yX3_teacherSlots ∈ qTw := qm4 (List.mem_of_getElem? (i := 67) (by decide +kernel)) (by decide +kernel)
theorem se_X3_teacherSlots : Jvm.Cond.selects yX3_teacherSlots.cls yX3_teacherSlots yX3_teacherSlots ∈ qTw := qm4 (List.mem_of_getElem? (i := 68) (by decide +kernel)) (by decide +kernel)
theorem co_X3_teacherSlots : Jvm.Cond.code yX3_teacherSlots cX3_teacherSlots 2 (some .int) ∈ qTw := qm4 (List.mem_of_getElem? (i := 69) (by decide +kernel)) (by decide +kernel)
theorem yk_X3_teacherSlots : qYk yX3_teacherSlots 1 := ⟨⟨by decide +kernel, by decide +kernel⟩, by decide +kernel⟩
theorem ml_X4_91 : Jvm.Cond.methodLink RX4 91 yX3_teacherSlots ∈ qTw := qm4 (List.mem_of_getElem? (i := 66) (by decide +kernel)) (by decide +kernel)
theorem kd_X4_91 {C : qCx} {w : qWp} {cc : ByteArray} {nL dp n0 n1 pc : Nat} (h : qOk C w RX4 cc nL dp n0 n1) (d : decode cc pc = .ok (.invokevirtual 91, 3)) : qCallOk C w nL dp n0 n1 pc 2 1 yX3_teacherSlots (.code yX3_teacherSlots cX3_teacherSlots 2 (some .int)) := kindV h d ml_X4_91 im_X3_teacherSlots se_X3_teacherSlots in_ParentEve_People co_X3_teacherSlots yk_X3_teacherSlots (by decide)
theorem im_X3_tongueOf : Jvm.Cond.instanceMethod yX3_tongueOf ∈ qTw := qm4 (List.mem_of_getElem? (i := 71) (by decide +kernel)) (by decide +kernel)
theorem se_X3_tongueOf : Jvm.Cond.selects yX3_tongueOf.cls yX3_tongueOf yX3_tongueOf ∈ qTw := qm4 (List.mem_of_getElem? (i := 72) (by decide +kernel)) (by decide +kernel)
theorem co_X3_tongueOf : Jvm.Cond.code yX3_tongueOf cX3_tongueOf 2 (some .int) ∈ qTw := qm4 (List.mem_of_getElem? (i := 73) (by decide +kernel)) (by decide +kernel)
theorem yk_X3_tongueOf : qYk yX3_tongueOf 1 := ⟨⟨by decide +kernel, by decide +kernel⟩, by decide +kernel⟩
theorem ml_X4_83 : Jvm.Cond.methodLink RX4 83 yX3_tongueOf ∈ qTw := qm4 (List.mem_of_getElem? (i := 70) (by decide +kernel)) (by decide +kernel)
theorem kd_X4_83 {C : qCx} {w : qWp} {cc : ByteArray} {nL dp n0 n1 pc : Nat} (h : qOk C w RX4 cc nL dp n0 n1) (d : decode cc pc = .ok (.invokevirtual 83, 3)) : qCallOk C w nL dp n0 n1 pc 2 1 yX3_tongueOf (.code yX3_tongueOf cX3_tongueOf 2 (some .int)) := kindV h d ml_X4_83 im_X3_tongueOf se_X3_tongueOf in_ParentEve_People co_X3_tongueOf yk_X3_tongueOf (by decide)
theorem im_X4_tooNearForWalks : Jvm.Cond.instanceMethod yX4_tooNearForWalks ∈ qTw := qm4 (List.mem_of_getElem? (i := 76) (by decide +kernel)) (by decide +kernel)
theorem se_X4_tooNearForWalks : Jvm.Cond.selects yX4_tooNearForWalks.cls yX4_tooNearForWalks yX4_tooNearForWalks ∈ qTw := List.mem_filter.mpr ⟨List.mem_append_left _ (List.mem_of_getElem? (i := 5) (by decide +kernel)), rfl⟩
theorem co_X4_tooNearForWalks : Jvm.Cond.code yX4_tooNearForWalks cX4_tooNearForWalks 7 (some .int) ∈ qTw := qm4 (List.mem_of_getElem? (i := 77) (by decide +kernel)) (by decide +kernel)
theorem yk_X4_tooNearForWalks : qYk yX4_tooNearForWalks 2 := ⟨⟨by decide +kernel, by decide +kernel⟩, by decide +kernel⟩
theorem ml_X4_94 : Jvm.Cond.methodLink RX4 94 yX4_tooNearForWalks ∈ qTw := qm4 (List.mem_of_getElem? (i := 74) (by decide +kernel)) (by decide +kernel)
theorem kd_X4_94 {C : qCx} {w : qWp} {cc : ByteArray} {nL dp n0 n1 pc : Nat} (h : qOk C w RX4 cc nL dp n0 n1) (d : decode cc pc = .ok (.invokevirtual 94, 3)) : qCallOk C w nL dp n0 n1 pc 3 1 yX4_tooNearForWalks (.code yX4_tooNearForWalks cX4_tooNearForWalks 7 (some .int)) := kindV h d ml_X4_94 im_X4_tooNearForWalks se_X4_tooNearForWalks in_ParentEve_Plan co_X4_tooNearForWalks yk_X4_tooNearForWalks (by decide)
theorem im_X4_tooNearForApart : Jvm.Cond.instanceMethod yX4_tooNearForApart ∈ qTw := qm4 (List.mem_of_getElem? (i := 87) (by decide +kernel)) (by decide +kernel)
theorem se_X4_tooNearForApart : Jvm.Cond.selects yX4_tooNearForApart.cls yX4_tooNearForApart yX4_tooNearForApart ∈ qTw := List.mem_filter.mpr ⟨List.mem_append_left _ (List.mem_of_getElem? (i := 6) (by decide +kernel)), rfl⟩
theorem co_X4_tooNearForApart : Jvm.Cond.code yX4_tooNearForApart cX4_tooNearForApart 5 (some .int) ∈ qTw := qm4 (List.mem_of_getElem? (i := 88) (by decide +kernel)) (by decide +kernel)
theorem yk_X4_tooNearForApart : qYk yX4_tooNearForApart 1 := ⟨⟨by decide +kernel, by decide +kernel⟩, by decide +kernel⟩
theorem ml_X4_97 : Jvm.Cond.methodLink RX4 97 yX4_tooNearForApart ∈ qTw := qm4 (List.mem_of_getElem? (i := 85) (by decide +kernel)) (by decide +kernel)
theorem kd_X4_97 {C : qCx} {w : qWp} {cc : ByteArray} {nL dp n0 n1 pc : Nat} (h : qOk C w RX4 cc nL dp n0 n1) (d : decode cc pc = .ok (.invokevirtual 97, 3)) : qCallOk C w nL dp n0 n1 pc 2 1 yX4_tooNearForApart (.code yX4_tooNearForApart cX4_tooNearForApart 5 (some .int)) := kindV h d ml_X4_97 im_X4_tooNearForApart se_X4_tooNearForApart in_ParentEve_Plan co_X4_tooNearForApart yk_X4_tooNearForApart (by decide)
theorem im_X4_tooManyInARow : Jvm.Cond.instanceMethod yX4_tooManyInARow ∈ qTw := qm4 (List.mem_of_getElem? (i := 97) (by decide +kernel)) (by decide +kernel)
theorem se_X4_tooManyInARow : Jvm.Cond.selects yX4_tooManyInARow.cls yX4_tooManyInARow yX4_tooManyInARow ∈ qTw := List.mem_filter.mpr ⟨List.mem_append_left _ (List.mem_of_getElem? (i := 7) (by decide +kernel)), rfl⟩
theorem co_X4_tooManyInARow : Jvm.Cond.code yX4_tooManyInARow cX4_tooManyInARow 8 (some .int) ∈ qTw := qm4 (List.mem_of_getElem? (i := 98) (by decide +kernel)) (by decide +kernel)
theorem yk_X4_tooManyInARow : qYk yX4_tooManyInARow 1 := ⟨⟨by decide +kernel, by decide +kernel⟩, by decide +kernel⟩
theorem ml_X4_100 : Jvm.Cond.methodLink RX4 100 yX4_tooManyInARow ∈ qTw := qm4 (List.mem_of_getElem? (i := 95) (by decide +kernel)) (by decide +kernel)
theorem kd_X4_100 {C : qCx} {w : qWp} {cc : ByteArray} {nL dp n0 n1 pc : Nat} (h : qOk C w RX4 cc nL dp n0 n1) (d : decode cc pc = .ok (.invokevirtual 100, 3)) : qCallOk C w nL dp n0 n1 pc 2 1 yX4_tooManyInARow (.code yX4_tooManyInARow cX4_tooManyInARow 8 (some .int)) := kindV h d ml_X4_100 im_X4_tooManyInARow se_X4_tooManyInARow in_ParentEve_Plan co_X4_tooManyInARow yk_X4_tooManyInARow (by decide)
theorem dX4_openSlots_0 : decode cX4_openSlots 0 = .ok (.aload_n 0, 1) := by decide +kernel
theorem dX4_openSlots_1 : decode cX4_openSlots 1 = .ok (.getfield 9, 3) := by decide +kernel
theorem dX4_openSlots_4 : decode cX4_openSlots 4 = .ok (.iload_n 1, 1) := by decide +kernel
theorem dX4_openSlots_5 : decode cX4_openSlots 5 = .ok (.iaload, 1) := by decide +kernel
theorem dX4_openSlots_6 : decode cX4_openSlots 6 = .ok (.istore_n 2, 1) := by decide +kernel
theorem dX4_openSlots_7 : decode cX4_openSlots 7 = .ok (.aload_n 0, 1) := by decide +kernel
theorem dX4_openSlots_8 : decode cX4_openSlots 8 = .ok (.getfield 15, 3) := by decide +kernel
theorem dX4_openSlots_11 : decode cX4_openSlots 11 = .ok (.iload_n 1, 1) := by decide +kernel
theorem dX4_openSlots_12 : decode cX4_openSlots 12 = .ok (.iaload, 1) := by decide +kernel
theorem dX4_openSlots_13 : decode cX4_openSlots 13 = .ok (.istore_n 3, 1) := by decide +kernel
theorem dX4_openSlots_14 : decode cX4_openSlots 14 = .ok (.aload_n 0, 1) := by decide +kernel
theorem dX4_openSlots_15 : decode cX4_openSlots 15 = .ok (.getfield 63, 3) := by decide +kernel
theorem dX4_openSlots_18 : decode cX4_openSlots 18 = .ok (.iload_n 2, 1) := by decide +kernel
theorem dX4_openSlots_19 : decode cX4_openSlots 19 = .ok (.invokevirtual 88, 3) := by decide +kernel
theorem dX4_openSlots_22 : decode cX4_openSlots 22 = .ok (.aload_n 0, 1) := by decide +kernel
theorem dX4_openSlots_23 : decode cX4_openSlots 23 = .ok (.getfield 63, 3) := by decide +kernel
theorem dX4_openSlots_26 : decode cX4_openSlots 26 = .ok (.iload_n 3, 1) := by decide +kernel
theorem dX4_openSlots_27 : decode cX4_openSlots 27 = .ok (.invokevirtual 91, 3) := by decide +kernel
theorem dX4_openSlots_30 : decode cX4_openSlots 30 = .ok (.iand, 1) := by decide +kernel
theorem dX4_openSlots_31 : decode cX4_openSlots 31 = .ok (.istore 4, 2) := by decide +kernel
theorem dX4_openSlots_33 : decode cX4_openSlots 33 = .ok (.iload 4, 2) := by decide +kernel
theorem dX4_openSlots_35 : decode cX4_openSlots 35 = .ok (.aload_n 0, 1) := by decide +kernel
theorem dX4_openSlots_36 : decode cX4_openSlots 36 = .ok (.getfield 31, 3) := by decide +kernel
theorem dX4_openSlots_39 : decode cX4_openSlots 39 = .ok (.iload_n 2, 1) := by decide +kernel
theorem dX4_openSlots_40 : decode cX4_openSlots 40 = .ok (.iaload, 1) := by decide +kernel
theorem dX4_openSlots_41 : decode cX4_openSlots 41 = .ok (.aload_n 0, 1) := by decide +kernel
theorem dX4_openSlots_42 : decode cX4_openSlots 42 = .ok (.getfield 34, 3) := by decide +kernel
theorem dX4_openSlots_45 : decode cX4_openSlots 45 = .ok (.iload_n 3, 1) := by decide +kernel
theorem dX4_openSlots_46 : decode cX4_openSlots 46 = .ok (.iaload, 1) := by decide +kernel
theorem dX4_openSlots_47 : decode cX4_openSlots 47 = .ok (.ior, 1) := by decide +kernel
theorem dX4_openSlots_48 : decode cX4_openSlots 48 = .ok (.iconst (-1), 1) := by decide +kernel
theorem dX4_openSlots_49 : decode cX4_openSlots 49 = .ok (.ixor, 1) := by decide +kernel
theorem dX4_openSlots_50 : decode cX4_openSlots 50 = .ok (.iand, 1) := by decide +kernel
theorem dX4_openSlots_51 : decode cX4_openSlots 51 = .ok (.istore 4, 2) := by decide +kernel
theorem dX4_openSlots_53 : decode cX4_openSlots 53 = .ok (.aload_n 0, 1) := by decide +kernel
theorem dX4_openSlots_54 : decode cX4_openSlots 54 = .ok (.getfield 63, 3) := by decide +kernel
theorem dX4_openSlots_57 : decode cX4_openSlots 57 = .ok (.iload_n 2, 1) := by decide +kernel
theorem dX4_openSlots_58 : decode cX4_openSlots 58 = .ok (.invokevirtual 83, 3) := by decide +kernel
theorem dX4_openSlots_61 : decode cX4_openSlots 61 = .ok (.ifCond .le 23, 3) := by decide +kernel
theorem dX4_openSlots_64 : decode cX4_openSlots 64 = .ok (.iload 4, 2) := by decide +kernel
theorem dX4_openSlots_66 : decode cX4_openSlots 66 = .ok (.aload_n 0, 1) := by decide +kernel
theorem dX4_openSlots_67 : decode cX4_openSlots 67 = .ok (.getfield 37, 3) := by decide +kernel
theorem dX4_openSlots_70 : decode cX4_openSlots 70 = .ok (.aload_n 0, 1) := by decide +kernel
theorem dX4_openSlots_71 : decode cX4_openSlots 71 = .ok (.getfield 63, 3) := by decide +kernel
theorem dX4_openSlots_74 : decode cX4_openSlots 74 = .ok (.iload_n 2, 1) := by decide +kernel
theorem dX4_openSlots_75 : decode cX4_openSlots 75 = .ok (.invokevirtual 83, 3) := by decide +kernel
theorem dX4_openSlots_78 : decode cX4_openSlots 78 = .ok (.iaload, 1) := by decide +kernel
theorem dX4_openSlots_79 : decode cX4_openSlots 79 = .ok (.iconst (-1), 1) := by decide +kernel
theorem dX4_openSlots_80 : decode cX4_openSlots 80 = .ok (.ixor, 1) := by decide +kernel
theorem dX4_openSlots_81 : decode cX4_openSlots 81 = .ok (.iand, 1) := by decide +kernel
theorem dX4_openSlots_82 : decode cX4_openSlots 82 = .ok (.istore 4, 2) := by decide +kernel
theorem dX4_openSlots_84 : decode cX4_openSlots 84 = .ok (.iload 4, 2) := by decide +kernel
theorem dX4_openSlots_86 : decode cX4_openSlots 86 = .ok (.ifCond .eq 28, 3) := by decide +kernel
theorem dX4_openSlots_89 : decode cX4_openSlots 89 = .ok (.iload 4, 2) := by decide +kernel
theorem dX4_openSlots_91 : decode cX4_openSlots 91 = .ok (.aload_n 0, 1) := by decide +kernel
theorem dX4_openSlots_92 : decode cX4_openSlots 92 = .ok (.iload_n 2, 1) := by decide +kernel
theorem dX4_openSlots_93 : decode cX4_openSlots 93 = .ok (.iload_n 3, 1) := by decide +kernel
theorem dX4_openSlots_94 : decode cX4_openSlots 94 = .ok (.invokevirtual 94, 3) := by decide +kernel
theorem dX4_openSlots_97 : decode cX4_openSlots 97 = .ok (.aload_n 0, 1) := by decide +kernel
theorem dX4_openSlots_98 : decode cX4_openSlots 98 = .ok (.iload_n 2, 1) := by decide +kernel
theorem dX4_openSlots_99 : decode cX4_openSlots 99 = .ok (.invokevirtual 97, 3) := by decide +kernel
theorem dX4_openSlots_102 : decode cX4_openSlots 102 = .ok (.ior, 1) := by decide +kernel
theorem dX4_openSlots_103 : decode cX4_openSlots 103 = .ok (.aload_n 0, 1) := by decide +kernel
theorem dX4_openSlots_104 : decode cX4_openSlots 104 = .ok (.iload_n 3, 1) := by decide +kernel
theorem dX4_openSlots_105 : decode cX4_openSlots 105 = .ok (.invokevirtual 100, 3) := by decide +kernel
theorem dX4_openSlots_108 : decode cX4_openSlots 108 = .ok (.ior, 1) := by decide +kernel
theorem dX4_openSlots_109 : decode cX4_openSlots 109 = .ok (.iconst (-1), 1) := by decide +kernel
theorem dX4_openSlots_110 : decode cX4_openSlots 110 = .ok (.ixor, 1) := by decide +kernel
theorem dX4_openSlots_111 : decode cX4_openSlots 111 = .ok (.iand, 1) := by decide +kernel
theorem dX4_openSlots_112 : decode cX4_openSlots 112 = .ok (.istore 4, 2) := by decide +kernel
theorem dX4_openSlots_114 : decode cX4_openSlots 114 = .ok (.iload 4, 2) := by decide +kernel
theorem dX4_openSlots_116 : decode cX4_openSlots 116 = .ok (.ireturn, 1) := by decide +kernel
noncomputable def tX4_openSlots_70 : qT (Int32 × qM) :=
  oLi 4 (eI)
noncomputable def wX4_openSlots_70 (k : Int32 → qM → Option (Int32 × qM)) : qT (Int32 × qM) := fun lo st m => match lo, st with
  | [_, _, _, _, some (.int a4)], [] => k a4 m
  | _, _ => none
set_option maxRecDepth 20000 in
theorem sX4_openSlots_70 {C : qCx} {w : qWp} (h : qOk C w RX4 cX4_openSlots 5 3 155 155) (hm : qMt C (some .int)) (hx : qNx C) : qSnd C w 5 155 (qQf C w 155 155 jI) qfin 155 114 (tX4_openSlots_70) :=
  cLI (pc := 114) h dX4_openSlots_114 (zI (pc := 116) h hm (Nat.le_refl _) dX4_openSlots_116)
set_option maxRecDepth 20000 in
theorem lX4_openSlots_70 (a4 : Int32) (m : qM) : tX4_openSlots_70 [none, none, none, none, some (.int a4)] [] m = fX4_openSlots_70 a4 m := rfl
theorem bX4_openSlots_70 {C : qCx} {w : qWp} (h : qOk C w RX4 cX4_openSlots 5 3 155 155) (hm : qMt C (some .int)) (hx : qNx C) : qSnd C w 5 155 (qQf C w 155 155 jI) qfin 155 114 (wX4_openSlots_70 fX4_openSlots_70) :=
  qSnd_of (fun lo st m x hr0 => by
    unfold wX4_openSlots_70 at hr0
    split at hr0
    · exact ⟨_, (qsub_n (qsub_n (qsub_n (qsub_n (qsub_e qsub_nil))))), (lX4_openSlots_70 _ _).trans hr0⟩
    · cases hr0) (sX4_openSlots_70 h hm hx)
noncomputable def tX4_openSlots_51 (j70 : qT (Int32 × qM)) : qT (Int32 × qM) :=
  oLi 4 (oEq (j70) (oLi 4 (oLa 0 (oLi 2 (oLi 3 (oCi GX4_tooNearForWalks 3 (oLa 0 (oLi 2 (oCi GX4_tooNearForApart 2 (o2 (· ||| ·) (oLa 0 (oLi 3 (oCi GX4_tooManyInARow 2 (o2 (· ||| ·) (oC (.int (-1 : Int32)) (o2 (· ^^^ ·) (o2 (· &&& ·) (oSi 4 (j70)))))))))))))))))))
noncomputable def wX4_openSlots_51 (k : Int32 → Int32 → Int32 → qM → Option (Int32 × qM)) : qT (Int32 × qM) := fun lo st m => match lo, st with
  | [some (.ref 58), _, some (.int a2), some (.int a3), some (.int a4)], [] => k a2 a3 a4 m
  | _, _ => none
set_option maxRecDepth 20000 in
theorem sX4_openSlots_51 {C : qCx} {w : qWp} (h : qOk C w RX4 cX4_openSlots 5 3 155 155) (hm : qMt C (some .int)) (hx : qNx C) {j70 : qT (Int32 × qM)} (k70 : qSnd C w 5 155 (qQf C w 155 155 jI) qfin 155 114 j70) : qSnd C w 5 155 (qQf C w 155 155 jI) qfin 155 84 (tX4_openSlots_51 j70) :=
  cLI (pc := 84) h dX4_openSlots_84 (jEq (pc := 86) h dX4_openSlots_86 rfl (k70) (cLI (pc := 89) h dX4_openSlots_89 (cLa (pc := 91) h dX4_openSlots_91 rfl (cLi (pc := 92) h dX4_openSlots_92 rfl (cLi (pc := 93) h dX4_openSlots_93 rfl (kCi (pc := 94) h (kd_X4_94 h dX4_openSlots_94) spX4_tooNearForWalks (by decide) (by decide) (by decide) (by decide) (cLa (pc := 97) h dX4_openSlots_97 rfl (cLi (pc := 98) h dX4_openSlots_98 rfl (kCi (pc := 99) h (kd_X4_97 h dX4_openSlots_99) spX4_tooNearForApart (by decide) (by decide) (by decide) (by decide) (aOr (pc := 102) h dX4_openSlots_102 (cLa (pc := 103) h dX4_openSlots_103 rfl (cLi (pc := 104) h dX4_openSlots_104 rfl (kCi (pc := 105) h (kd_X4_100 h dX4_openSlots_105) spX4_tooManyInARow (by decide) (by decide) (by decide) (by decide) (aOr (pc := 108) h dX4_openSlots_108 (cC (pc := 109) h dX4_openSlots_109 rfl (aXor (pc := 110) h dX4_openSlots_110 (aAnd (pc := 111) h dX4_openSlots_111 (cSI (pc := 112) h dX4_openSlots_112 (k70)))))))))))))))))))
set_option maxRecDepth 20000 in
theorem lX4_openSlots_51 (a2 : Int32) (a3 : Int32) (a4 : Int32) (m : qM) : tX4_openSlots_51 (wX4_openSlots_70 fX4_openSlots_70) [some (.ref 58), none, some (.int a2), some (.int a3), some (.int a4)] [] m = fX4_openSlots_51 a2 a3 a4 m := rfl
theorem bX4_openSlots_51 {C : qCx} {w : qWp} (h : qOk C w RX4 cX4_openSlots 5 3 155 155) (hm : qMt C (some .int)) (hx : qNx C) : qSnd C w 5 155 (qQf C w 155 155 jI) qfin 155 84 (wX4_openSlots_51 fX4_openSlots_51) :=
  qSnd_of (fun lo st m x hr0 => by
    unfold wX4_openSlots_51 at hr0
    split at hr0
    · exact ⟨_, (qsub_e (qsub_n (qsub_e (qsub_e (qsub_e qsub_nil))))), (lX4_openSlots_51 _ _ _ _).trans hr0⟩
    · cases hr0) (sX4_openSlots_51 h hm hx (bX4_openSlots_70 h hm hx))
noncomputable def tX4_openSlots_0 (j51 : qT (Int32 × qM)) : qT (Int32 × qM) :=
  oLa 0 (oGf 58 2 59 (oLi 1 (oAi 59 40 (oSi 2 (oLa 0 (oGf 58 3 60 (oLi 1 (oAi 60 40 (oSi 3 (oLa 0 (oGf 58 1 47 (oLi 2 (oCi GX3_familySlots 2 (oLa 0 (oGf 58 1 47 (oLi 3 (oCi GX3_teacherSlots 2 (o2 (· &&& ·) (oSi 4 (oLi 4 (oLa 0 (oGf 58 8 65 (oLi 2 (oAi 65 15 (oLa 0 (oGf 58 9 66 (oLi 3 (oAi 66 10 (o2 (· ||| ·) (oC (.int (-1 : Int32)) (o2 (· ^^^ ·) (o2 (· &&& ·) (oSi 4 (oLa 0 (oGf 58 1 47 (oLi 2 (oCi GX3_tongueOf 2 (oLe (j51) (oLi 4 (oLa 0 (oGf 58 10 67 (oLa 0 (oGf 58 1 47 (oLi 2 (oCi GX3_tongueOf 2 (oAi 67 4 (oC (.int (-1 : Int32)) (o2 (· ^^^ ·) (o2 (· &&& ·) (oSi 4 (j51)))))))))))))))))))))))))))))))))))))))))))))))))))
set_option maxRecDepth 20000 in
theorem sX4_openSlots_0 {C : qCx} {w : qWp} (h : qOk C w RX4 cX4_openSlots 5 3 155 155) (hm : qMt C (some .int)) (hx : qNx C) {j51 : qT (Int32 × qM)} (k51 : qSnd C w 5 155 (qQf C w 155 155 jI) qfin 155 84 j51) : qSnd C w 5 155 (qQf C w 155 155 jI) qfin 155 0 (tX4_openSlots_0 j51) :=
  cLa (pc := 0) h dX4_openSlots_0 rfl (gGf (pc := 1) h dX4_openSlots_1 ff_X4_9_58 (Nat.le_of_ble_eq_true rfl) (Nat.le_of_ble_eq_true rfl) rfl (cLi (pc := 4) h dX4_openSlots_4 rfl (rAi (pc := 5) h dX4_openSlots_5 rfl (Nat.le_of_ble_eq_true rfl) (Nat.le_of_ble_eq_true rfl) (cSi (pc := 6) h dX4_openSlots_6 rfl (cLa (pc := 7) h dX4_openSlots_7 rfl (gGf (pc := 8) h dX4_openSlots_8 ff_X4_15_58 (Nat.le_of_ble_eq_true rfl) (Nat.le_of_ble_eq_true rfl) rfl (cLi (pc := 11) h dX4_openSlots_11 rfl (rAi (pc := 12) h dX4_openSlots_12 rfl (Nat.le_of_ble_eq_true rfl) (Nat.le_of_ble_eq_true rfl) (cSi (pc := 13) h dX4_openSlots_13 rfl (cLa (pc := 14) h dX4_openSlots_14 rfl (gGf (pc := 15) h dX4_openSlots_15 ff_X4_63_58 (Nat.le_of_ble_eq_true rfl) (Nat.le_of_ble_eq_true rfl) rfl (cLi (pc := 18) h dX4_openSlots_18 rfl (kCi (pc := 19) h (kd_X4_88 h dX4_openSlots_19) spX3_familySlots (by decide) (by decide) (by decide) (by decide) (cLa (pc := 22) h dX4_openSlots_22 rfl (gGf (pc := 23) h dX4_openSlots_23 ff_X4_63_58 (Nat.le_of_ble_eq_true rfl) (Nat.le_of_ble_eq_true rfl) rfl (cLi (pc := 26) h dX4_openSlots_26 rfl (kCi (pc := 27) h (kd_X4_91 h dX4_openSlots_27) spX3_teacherSlots (by decide) (by decide) (by decide) (by decide) (aAnd (pc := 30) h dX4_openSlots_30 (cSI (pc := 31) h dX4_openSlots_31 (cLI (pc := 33) h dX4_openSlots_33 (cLa (pc := 35) h dX4_openSlots_35 rfl (gGf (pc := 36) h dX4_openSlots_36 ff_X4_31_58 (Nat.le_of_ble_eq_true rfl) (Nat.le_of_ble_eq_true rfl) rfl (cLi (pc := 39) h dX4_openSlots_39 rfl (rAi (pc := 40) h dX4_openSlots_40 rfl (Nat.le_of_ble_eq_true rfl) (Nat.le_of_ble_eq_true rfl) (cLa (pc := 41) h dX4_openSlots_41 rfl (gGf (pc := 42) h dX4_openSlots_42 ff_X4_34_58 (Nat.le_of_ble_eq_true rfl) (Nat.le_of_ble_eq_true rfl) rfl (cLi (pc := 45) h dX4_openSlots_45 rfl (rAi (pc := 46) h dX4_openSlots_46 rfl (Nat.le_of_ble_eq_true rfl) (Nat.le_of_ble_eq_true rfl) (aOr (pc := 47) h dX4_openSlots_47 (cC (pc := 48) h dX4_openSlots_48 rfl (aXor (pc := 49) h dX4_openSlots_49 (aAnd (pc := 50) h dX4_openSlots_50 (cSI (pc := 51) h dX4_openSlots_51 (cLa (pc := 53) h dX4_openSlots_53 rfl (gGf (pc := 54) h dX4_openSlots_54 ff_X4_63_58 (Nat.le_of_ble_eq_true rfl) (Nat.le_of_ble_eq_true rfl) rfl (cLi (pc := 57) h dX4_openSlots_57 rfl (kCi (pc := 58) h (kd_X4_83 h dX4_openSlots_58) spX3_tongueOf (by decide) (by decide) (by decide) (by decide) (jLe (pc := 61) h dX4_openSlots_61 rfl (k51) (cLI (pc := 64) h dX4_openSlots_64 (cLa (pc := 66) h dX4_openSlots_66 rfl (gGf (pc := 67) h dX4_openSlots_67 ff_X4_37_58 (Nat.le_of_ble_eq_true rfl) (Nat.le_of_ble_eq_true rfl) rfl (cLa (pc := 70) h dX4_openSlots_70 rfl (gGf (pc := 71) h dX4_openSlots_71 ff_X4_63_58 (Nat.le_of_ble_eq_true rfl) (Nat.le_of_ble_eq_true rfl) rfl (cLi (pc := 74) h dX4_openSlots_74 rfl (kCi (pc := 75) h (kd_X4_83 h dX4_openSlots_75) spX3_tongueOf (by decide) (by decide) (by decide) (by decide) (rAi (pc := 78) h dX4_openSlots_78 rfl (Nat.le_of_ble_eq_true rfl) (Nat.le_of_ble_eq_true rfl) (cC (pc := 79) h dX4_openSlots_79 rfl (aXor (pc := 80) h dX4_openSlots_80 (aAnd (pc := 81) h dX4_openSlots_81 (cSI (pc := 82) h dX4_openSlots_82 (k51)))))))))))))))))))))))))))))))))))))))))))))))))))
set_option maxRecDepth 20000 in
theorem lX4_openSlots_0 (a1 : Int32) (m : qM) : tX4_openSlots_0 (wX4_openSlots_51 fX4_openSlots_51) [some (.ref 58), some (.int a1), none, none, none] [] m = fX4_openSlots_0 a1 m := rfl
noncomputable def GX4_openSlots : qG Int32 := fun av m => match av with
  | [.ref 58, .int a1] => fX4_openSlots a1 m
  | _ => none
theorem spX4_openSlots : qSpI yX4_openSlots (.code yX4_openSlots cX4_openSlots 5 (some .int)) 3 qfin 155 155 1 GX4_openSlots := by
  intro av m x m' hG
  unfold GX4_openSlots at hG
  split at hG
  · rename_i a1
    rw [fX4_openSlots_d] at hG
    exact ⟨qmeet (J := jI) (r := (x, m')) (av := [.ref 58, .int a1]) (by decide +kernel) (Nat.le_of_ble_eq_true rfl) (fun C w h hm hx hn => sX4_openSlots_0 h hm hx (bX4_openSlots_51 h hm hx)) ((lX4_openSlots_0 _ _).trans hG) (Nat.le_of_ble_eq_true rfl), Or.inl ⟨58, _, 4, _, _, rfl, by decide, rfl, qCk_4, rfl⟩⟩
  · cases hG
theorem dX3_wishOf_0 : decode cX3_wishOf 0 = .ok (.aload_n 0, 1) := by decide +kernel
theorem dX3_wishOf_1 : decode cX3_wishOf 1 = .ok (.getfield 27, 3) := by decide +kernel
theorem dX3_wishOf_4 : decode cX3_wishOf 4 = .ok (.iload_n 1, 1) := by decide +kernel
theorem dX3_wishOf_5 : decode cX3_wishOf 5 = .ok (.iaload, 1) := by decide +kernel
theorem dX3_wishOf_6 : decode cX3_wishOf 6 = .ok (.ireturn, 1) := by decide +kernel
noncomputable def tX3_wishOf_0 : qT (Int32 × qM) :=
  oLa 0 (oGf 47 6 53 (oLi 1 (oAi 53 15 (eI))))
set_option maxRecDepth 20000 in
theorem sX3_wishOf_0 {C : qCx} {w : qWp} (h : qOk C w RX3 cX3_wishOf 2 0 155 155) (hm : qMt C (some .int)) (hx : qNx C) : qSnd C w 2 155 (qQf C w 155 155 jI) qfin 155 0 (tX3_wishOf_0) :=
  cLa (pc := 0) h dX3_wishOf_0 rfl (gGf (pc := 1) h dX3_wishOf_1 ff_X3_27_47 (Nat.le_of_ble_eq_true rfl) (Nat.le_of_ble_eq_true rfl) rfl (cLi (pc := 4) h dX3_wishOf_4 rfl (rAi (pc := 5) h dX3_wishOf_5 rfl (Nat.le_of_ble_eq_true rfl) (Nat.le_of_ble_eq_true rfl) (zI (pc := 6) h hm (Nat.le_refl _) dX3_wishOf_6))))
set_option maxRecDepth 20000 in
theorem lX3_wishOf_0 (a1 : Int32) (m : qM) : tX3_wishOf_0 [some (.ref 47), some (.int a1)] [] m = fX3_wishOf_0 a1 m := rfl
noncomputable def GX3_wishOf : qG Int32 := fun av m => match av with
  | [.ref 47, .int a1] => fX3_wishOf a1 m
  | _ => none
theorem spX3_wishOf : qSpI yX3_wishOf (.code yX3_wishOf cX3_wishOf 2 (some .int)) 0 qfin 155 155 1 GX3_wishOf := by
  intro av m x m' hG
  unfold GX3_wishOf at hG
  split at hG
  · rename_i a1
    rw [fX3_wishOf_d] at hG
    exact ⟨qmeet (J := jI) (r := (x, m')) (av := [.ref 47, .int a1]) (by decide +kernel) (Nat.le_of_ble_eq_true rfl) (fun C w h hm hx hn => sX3_wishOf_0 h hm hx) ((lX3_wishOf_0 _ _).trans hG) (Nat.le_of_ble_eq_true rfl), Or.inl ⟨47, _, 3, _, _, rfl, by decide, rfl, qCk_3, rfl⟩⟩
  · cases hG
theorem fc_J6_265 : Jvm.Cond.constant RJ6 265 (1431655765 : Int32) ∈ qTw := qm4 (List.mem_of_getElem? (i := 118) (by decide +kernel)) (by decide +kernel)
theorem fc_J6_266 : Jvm.Cond.constant RJ6 266 (858993459 : Int32) ∈ qTw := qm4 (List.mem_of_getElem? (i := 119) (by decide +kernel)) (by decide +kernel)
theorem fc_J6_267 : Jvm.Cond.constant RJ6 267 (252645135 : Int32) ∈ qTw := qm4 (List.mem_of_getElem? (i := 120) (by decide +kernel)) (by decide +kernel)
theorem dJ6_bitCount_0f7a4_0 : decode cJ6_bitCount_0f7a4 0 = .ok (.iload_n 0, 1) := by decide +kernel
theorem dJ6_bitCount_0f7a4_1 : decode cJ6_bitCount_0f7a4 1 = .ok (.iload_n 0, 1) := by decide +kernel
theorem dJ6_bitCount_0f7a4_2 : decode cJ6_bitCount_0f7a4 2 = .ok (.iconst 1, 1) := by decide +kernel
theorem dJ6_bitCount_0f7a4_3 : decode cJ6_bitCount_0f7a4 3 = .ok (.iushr, 1) := by decide +kernel
theorem dJ6_bitCount_0f7a4_4 : decode cJ6_bitCount_0f7a4 4 = .ok (.ldc_w 265, 3) := by decide +kernel
theorem dJ6_bitCount_0f7a4_7 : decode cJ6_bitCount_0f7a4 7 = .ok (.iand, 1) := by decide +kernel
theorem dJ6_bitCount_0f7a4_8 : decode cJ6_bitCount_0f7a4 8 = .ok (.isub, 1) := by decide +kernel
theorem dJ6_bitCount_0f7a4_9 : decode cJ6_bitCount_0f7a4 9 = .ok (.istore_n 0, 1) := by decide +kernel
theorem dJ6_bitCount_0f7a4_10 : decode cJ6_bitCount_0f7a4 10 = .ok (.iload_n 0, 1) := by decide +kernel
theorem dJ6_bitCount_0f7a4_11 : decode cJ6_bitCount_0f7a4 11 = .ok (.ldc_w 266, 3) := by decide +kernel
theorem dJ6_bitCount_0f7a4_14 : decode cJ6_bitCount_0f7a4 14 = .ok (.iand, 1) := by decide +kernel
theorem dJ6_bitCount_0f7a4_15 : decode cJ6_bitCount_0f7a4 15 = .ok (.iload_n 0, 1) := by decide +kernel
theorem dJ6_bitCount_0f7a4_16 : decode cJ6_bitCount_0f7a4 16 = .ok (.iconst 2, 1) := by decide +kernel
theorem dJ6_bitCount_0f7a4_17 : decode cJ6_bitCount_0f7a4 17 = .ok (.iushr, 1) := by decide +kernel
theorem dJ6_bitCount_0f7a4_18 : decode cJ6_bitCount_0f7a4 18 = .ok (.ldc_w 266, 3) := by decide +kernel
theorem dJ6_bitCount_0f7a4_21 : decode cJ6_bitCount_0f7a4 21 = .ok (.iand, 1) := by decide +kernel
theorem dJ6_bitCount_0f7a4_22 : decode cJ6_bitCount_0f7a4 22 = .ok (.iadd, 1) := by decide +kernel
theorem dJ6_bitCount_0f7a4_23 : decode cJ6_bitCount_0f7a4 23 = .ok (.istore_n 0, 1) := by decide +kernel
theorem dJ6_bitCount_0f7a4_24 : decode cJ6_bitCount_0f7a4 24 = .ok (.iload_n 0, 1) := by decide +kernel
theorem dJ6_bitCount_0f7a4_25 : decode cJ6_bitCount_0f7a4 25 = .ok (.iload_n 0, 1) := by decide +kernel
theorem dJ6_bitCount_0f7a4_26 : decode cJ6_bitCount_0f7a4 26 = .ok (.iconst 4, 1) := by decide +kernel
theorem dJ6_bitCount_0f7a4_27 : decode cJ6_bitCount_0f7a4 27 = .ok (.iushr, 1) := by decide +kernel
theorem dJ6_bitCount_0f7a4_28 : decode cJ6_bitCount_0f7a4 28 = .ok (.iadd, 1) := by decide +kernel
theorem dJ6_bitCount_0f7a4_29 : decode cJ6_bitCount_0f7a4 29 = .ok (.ldc_w 267, 3) := by decide +kernel
theorem dJ6_bitCount_0f7a4_32 : decode cJ6_bitCount_0f7a4 32 = .ok (.iand, 1) := by decide +kernel
theorem dJ6_bitCount_0f7a4_33 : decode cJ6_bitCount_0f7a4 33 = .ok (.istore_n 0, 1) := by decide +kernel
theorem dJ6_bitCount_0f7a4_34 : decode cJ6_bitCount_0f7a4 34 = .ok (.iload_n 0, 1) := by decide +kernel
theorem dJ6_bitCount_0f7a4_35 : decode cJ6_bitCount_0f7a4 35 = .ok (.iload_n 0, 1) := by decide +kernel
theorem dJ6_bitCount_0f7a4_36 : decode cJ6_bitCount_0f7a4 36 = .ok (.bipush 8, 2) := by decide +kernel
theorem dJ6_bitCount_0f7a4_38 : decode cJ6_bitCount_0f7a4 38 = .ok (.iushr, 1) := by decide +kernel
theorem dJ6_bitCount_0f7a4_39 : decode cJ6_bitCount_0f7a4 39 = .ok (.iadd, 1) := by decide +kernel
theorem dJ6_bitCount_0f7a4_40 : decode cJ6_bitCount_0f7a4 40 = .ok (.istore_n 0, 1) := by decide +kernel
theorem dJ6_bitCount_0f7a4_41 : decode cJ6_bitCount_0f7a4 41 = .ok (.iload_n 0, 1) := by decide +kernel
theorem dJ6_bitCount_0f7a4_42 : decode cJ6_bitCount_0f7a4 42 = .ok (.iload_n 0, 1) := by decide +kernel
theorem dJ6_bitCount_0f7a4_43 : decode cJ6_bitCount_0f7a4 43 = .ok (.bipush 16, 2) := by decide +kernel
theorem dJ6_bitCount_0f7a4_45 : decode cJ6_bitCount_0f7a4 45 = .ok (.iushr, 1) := by decide +kernel
theorem dJ6_bitCount_0f7a4_46 : decode cJ6_bitCount_0f7a4 46 = .ok (.iadd, 1) := by decide +kernel
theorem dJ6_bitCount_0f7a4_47 : decode cJ6_bitCount_0f7a4 47 = .ok (.istore_n 0, 1) := by decide +kernel
theorem dJ6_bitCount_0f7a4_48 : decode cJ6_bitCount_0f7a4 48 = .ok (.iload_n 0, 1) := by decide +kernel
theorem dJ6_bitCount_0f7a4_49 : decode cJ6_bitCount_0f7a4 49 = .ok (.bipush 63, 2) := by decide +kernel
theorem dJ6_bitCount_0f7a4_51 : decode cJ6_bitCount_0f7a4 51 = .ok (.iand, 1) := by decide +kernel
theorem dJ6_bitCount_0f7a4_52 : decode cJ6_bitCount_0f7a4 52 = .ok (.ireturn, 1) := by decide +kernel
noncomputable def tJ6_bitCount_0f7a4_0 : qT (Int32 × qM) :=
  oLi 0 (oLi 0 (oC (.int (1 : Int32)) (o2 (fun x y => (x.toUInt32 >>> (y.toUInt32 &&& Int32.toUInt32 31)).toInt32) (oC (.int (1431655765 : Int32)) (o2 (· &&& ·) (o2 (· - ·) (oSi 0 (oLi 0 (oC (.int (858993459 : Int32)) (o2 (· &&& ·) (oLi 0 (oC (.int (2 : Int32)) (o2 (fun x y => (x.toUInt32 >>> (y.toUInt32 &&& Int32.toUInt32 31)).toInt32) (oC (.int (858993459 : Int32)) (o2 (· &&& ·) (o2 (· + ·) (oSi 0 (oLi 0 (oLi 0 (oC (.int (4 : Int32)) (o2 (fun x y => (x.toUInt32 >>> (y.toUInt32 &&& Int32.toUInt32 31)).toInt32) (o2 (· + ·) (oC (.int (252645135 : Int32)) (o2 (· &&& ·) (oSi 0 (oLi 0 (oLi 0 (oC (.int (8 : Int32)) (o2 (fun x y => (x.toUInt32 >>> (y.toUInt32 &&& Int32.toUInt32 31)).toInt32) (o2 (· + ·) (oSi 0 (oLi 0 (oLi 0 (oC (.int (16 : Int32)) (o2 (fun x y => (x.toUInt32 >>> (y.toUInt32 &&& Int32.toUInt32 31)).toInt32) (o2 (· + ·) (oSi 0 (oLi 0 (oC (.int (63 : Int32)) (o2 (· &&& ·) (eI)))))))))))))))))))))))))))))))))))))))))
set_option maxRecDepth 20000 in
theorem sJ6_bitCount_0f7a4_0 {C : qCx} {w : qWp} (h : qOk C w RJ6 cJ6_bitCount_0f7a4 1 0 155 155) (hm : qMt C (some .int)) (hx : qNx C) : qSnd C w 1 155 (qQf C w 155 155 jI) qfin 155 0 (tJ6_bitCount_0f7a4_0) :=
  cLi (pc := 0) h dJ6_bitCount_0f7a4_0 rfl (cLi (pc := 1) h dJ6_bitCount_0f7a4_1 rfl (cC (pc := 2) h dJ6_bitCount_0f7a4_2 rfl (aUshr (pc := 3) h dJ6_bitCount_0f7a4_3 (cKw (pc := 4) h dJ6_bitCount_0f7a4_4 fc_J6_265 (aAnd (pc := 7) h dJ6_bitCount_0f7a4_7 (aSub (pc := 8) h dJ6_bitCount_0f7a4_8 (cSi (pc := 9) h dJ6_bitCount_0f7a4_9 rfl (cLi (pc := 10) h dJ6_bitCount_0f7a4_10 rfl (cKw (pc := 11) h dJ6_bitCount_0f7a4_11 fc_J6_266 (aAnd (pc := 14) h dJ6_bitCount_0f7a4_14 (cLi (pc := 15) h dJ6_bitCount_0f7a4_15 rfl (cC (pc := 16) h dJ6_bitCount_0f7a4_16 rfl (aUshr (pc := 17) h dJ6_bitCount_0f7a4_17 (cKw (pc := 18) h dJ6_bitCount_0f7a4_18 fc_J6_266 (aAnd (pc := 21) h dJ6_bitCount_0f7a4_21 (aAdd (pc := 22) h dJ6_bitCount_0f7a4_22 (cSi (pc := 23) h dJ6_bitCount_0f7a4_23 rfl (cLi (pc := 24) h dJ6_bitCount_0f7a4_24 rfl (cLi (pc := 25) h dJ6_bitCount_0f7a4_25 rfl (cC (pc := 26) h dJ6_bitCount_0f7a4_26 rfl (aUshr (pc := 27) h dJ6_bitCount_0f7a4_27 (aAdd (pc := 28) h dJ6_bitCount_0f7a4_28 (cKw (pc := 29) h dJ6_bitCount_0f7a4_29 fc_J6_267 (aAnd (pc := 32) h dJ6_bitCount_0f7a4_32 (cSi (pc := 33) h dJ6_bitCount_0f7a4_33 rfl (cLi (pc := 34) h dJ6_bitCount_0f7a4_34 rfl (cLi (pc := 35) h dJ6_bitCount_0f7a4_35 rfl (cB (pc := 36) h dJ6_bitCount_0f7a4_36 rfl (aUshr (pc := 38) h dJ6_bitCount_0f7a4_38 (aAdd (pc := 39) h dJ6_bitCount_0f7a4_39 (cSi (pc := 40) h dJ6_bitCount_0f7a4_40 rfl (cLi (pc := 41) h dJ6_bitCount_0f7a4_41 rfl (cLi (pc := 42) h dJ6_bitCount_0f7a4_42 rfl (cB (pc := 43) h dJ6_bitCount_0f7a4_43 rfl (aUshr (pc := 45) h dJ6_bitCount_0f7a4_45 (aAdd (pc := 46) h dJ6_bitCount_0f7a4_46 (cSi (pc := 47) h dJ6_bitCount_0f7a4_47 rfl (cLi (pc := 48) h dJ6_bitCount_0f7a4_48 rfl (cB (pc := 49) h dJ6_bitCount_0f7a4_49 rfl (aAnd (pc := 51) h dJ6_bitCount_0f7a4_51 (zI (pc := 52) h hm (Nat.le_refl _) dJ6_bitCount_0f7a4_52)))))))))))))))))))))))))))))))))))))))))
set_option maxRecDepth 20000 in
theorem lJ6_bitCount_0f7a4_0 (a0 : Int32) (m : qM) : tJ6_bitCount_0f7a4_0 [some (.int a0)] [] m = fJ6_bitCount_0f7a4_0 a0 m := rfl
noncomputable def GJ6_bitCount_0f7a4 : qG Int32 := fun av m => match av with
  | [.int a0] => fJ6_bitCount_0f7a4 a0 m
  | _ => none
theorem spJ6_bitCount_0f7a4 : qSpI yJ6_bitCount_0f7a4 (.code yJ6_bitCount_0f7a4 cJ6_bitCount_0f7a4 1 (some .int)) 0 qfin 155 155 0 GJ6_bitCount_0f7a4 := by
  intro av m x m' hG
  unfold GJ6_bitCount_0f7a4 at hG
  split at hG
  · rename_i a0
    rw [fJ6_bitCount_0f7a4_d] at hG
    exact ⟨qmeet (J := jI) (r := (x, m')) (av := [.int a0]) (by decide +kernel) (Nat.le_of_ble_eq_true rfl) (fun C w h hm hx hn => sJ6_bitCount_0f7a4_0 h hm hx) ((lJ6_bitCount_0f7a4_0 _ _).trans hG) (Nat.le_of_ble_eq_true rfl), trivial⟩
  · cases hG
theorem im_J6_bitCount_0f7a4 : Jvm.Cond.static yJ6_bitCount_0f7a4 ∈ qTw := qm4 (List.mem_of_getElem? (i := 116) (by decide +kernel)) (by decide +kernel)
theorem in_java_lang_Integer : Jvm.Cond.initialized "java/lang/Integer" ∈ qTw := qm1 (List.mem_of_getElem? (i := 23) (by decide +kernel)) (by decide +kernel)
theorem co_J6_bitCount_0f7a4 : Jvm.Cond.code yJ6_bitCount_0f7a4 cJ6_bitCount_0f7a4 1 (some .int) ∈ qTw := qm4 (List.mem_of_getElem? (i := 117) (by decide +kernel)) (by decide +kernel)
theorem yk_J6_bitCount_0f7a4 : qYk yJ6_bitCount_0f7a4 1 := ⟨⟨by decide +kernel, by decide +kernel⟩, by decide +kernel⟩
theorem ml_X11_223 : Jvm.Cond.methodLink RX11 223 yJ6_bitCount_0f7a4 ∈ qTw := qm4 (List.mem_of_getElem? (i := 115) (by decide +kernel)) (by decide +kernel)
theorem kd_X11_223 {C : qCx} {w : qWp} {cc : ByteArray} {nL dp n0 n1 pc : Nat} (h : qOk C w RX11 cc nL dp n0 n1) (d : decode cc pc = .ok (.invokestatic 223, 3)) : qCallOk C w nL dp n0 n1 pc 1 0 yJ6_bitCount_0f7a4 (.code yJ6_bitCount_0f7a4 cJ6_bitCount_0f7a4 1 (some .int)) := kindS h d ml_X11_223 im_J6_bitCount_0f7a4 in_java_lang_Integer co_J6_bitCount_0f7a4 yk_J6_bitCount_0f7a4 (by decide)
theorem dX11_leastOf_0 : decode cX11_leastOf 0 = .ok (.iload_n 0, 1) := by decide +kernel
theorem dX11_leastOf_1 : decode cX11_leastOf 1 = .ok (.iload_n 0, 1) := by decide +kernel
theorem dX11_leastOf_2 : decode cX11_leastOf 2 = .ok (.ineg, 1) := by decide +kernel
theorem dX11_leastOf_3 : decode cX11_leastOf 3 = .ok (.iand, 1) := by decide +kernel
theorem dX11_leastOf_4 : decode cX11_leastOf 4 = .ok (.iconst 1, 1) := by decide +kernel
theorem dX11_leastOf_5 : decode cX11_leastOf 5 = .ok (.isub, 1) := by decide +kernel
theorem dX11_leastOf_6 : decode cX11_leastOf 6 = .ok (.invokestatic 223, 3) := by decide +kernel
theorem dX11_leastOf_9 : decode cX11_leastOf 9 = .ok (.ireturn, 1) := by decide +kernel
noncomputable def tX11_leastOf_0 : qT (Int32 × qM) :=
  oLi 0 (oLi 0 (o1 (-·) (o2 (· &&& ·) (oC (.int (1 : Int32)) (o2 (· - ·) (oCi GJ6_bitCount_0f7a4 1 (eI)))))))
set_option maxRecDepth 20000 in
theorem sX11_leastOf_0 {C : qCx} {w : qWp} (h : qOk C w RX11 cX11_leastOf 1 1 155 155) (hm : qMt C (some .int)) (hx : qNx C) : qSnd C w 1 155 (qQf C w 155 155 jI) qfin 155 0 (tX11_leastOf_0) :=
  cLi (pc := 0) h dX11_leastOf_0 rfl (cLi (pc := 1) h dX11_leastOf_1 rfl (aNeg (pc := 2) h dX11_leastOf_2 (aAnd (pc := 3) h dX11_leastOf_3 (cC (pc := 4) h dX11_leastOf_4 rfl (aSub (pc := 5) h dX11_leastOf_5 (kCi (pc := 6) h (kd_X11_223 h dX11_leastOf_6) spJ6_bitCount_0f7a4 (by decide) (by decide) (by decide) (by decide) (zI (pc := 9) h hm (Nat.le_refl _) dX11_leastOf_9)))))))
set_option maxRecDepth 20000 in
theorem lX11_leastOf_0 (a0 : Int32) (m : qM) : tX11_leastOf_0 [some (.int a0)] [] m = fX11_leastOf_0 a0 m := rfl
noncomputable def GX11_leastOf : qG Int32 := fun av m => match av with
  | [.int a0] => fX11_leastOf a0 m
  | _ => none
theorem spX11_leastOf : qSpI yX11_leastOf (.code yX11_leastOf cX11_leastOf 1 (some .int)) 1 qfin 155 155 0 GX11_leastOf := by
  intro av m x m' hG
  unfold GX11_leastOf at hG
  split at hG
  · rename_i a0
    rw [fX11_leastOf_d] at hG
    exact ⟨qmeet (J := jI) (r := (x, m')) (av := [.int a0]) (by decide +kernel) (Nat.le_of_ble_eq_true rfl) (fun C w h hm hx hn => sX11_leastOf_0 h hm hx) ((lX11_leastOf_0 _ _).trans hG) (Nat.le_of_ble_eq_true rfl), trivial⟩
  · cases hG
theorem dX11_gapsIn_0 : decode cX11_gapsIn 0 = .ok (.iload_n 0, 1) := by decide +kernel
theorem dX11_gapsIn_1 : decode cX11_gapsIn 1 = .ok (.iload_n 0, 1) := by decide +kernel
theorem dX11_gapsIn_2 : decode cX11_gapsIn 2 = .ok (.iconst 1, 1) := by decide +kernel
theorem dX11_gapsIn_3 : decode cX11_gapsIn 3 = .ok (.ishr, 1) := by decide +kernel
theorem dX11_gapsIn_4 : decode cX11_gapsIn 4 = .ok (.ior, 1) := by decide +kernel
theorem dX11_gapsIn_5 : decode cX11_gapsIn 5 = .ok (.istore_n 1, 1) := by decide +kernel
theorem dX11_gapsIn_6 : decode cX11_gapsIn 6 = .ok (.iload_n 1, 1) := by decide +kernel
theorem dX11_gapsIn_7 : decode cX11_gapsIn 7 = .ok (.iload_n 1, 1) := by decide +kernel
theorem dX11_gapsIn_8 : decode cX11_gapsIn 8 = .ok (.iconst 2, 1) := by decide +kernel
theorem dX11_gapsIn_9 : decode cX11_gapsIn 9 = .ok (.ishr, 1) := by decide +kernel
theorem dX11_gapsIn_10 : decode cX11_gapsIn 10 = .ok (.ior, 1) := by decide +kernel
theorem dX11_gapsIn_11 : decode cX11_gapsIn 11 = .ok (.istore_n 1, 1) := by decide +kernel
theorem dX11_gapsIn_12 : decode cX11_gapsIn 12 = .ok (.iload_n 1, 1) := by decide +kernel
theorem dX11_gapsIn_13 : decode cX11_gapsIn 13 = .ok (.iload_n 1, 1) := by decide +kernel
theorem dX11_gapsIn_14 : decode cX11_gapsIn 14 = .ok (.iconst 4, 1) := by decide +kernel
theorem dX11_gapsIn_15 : decode cX11_gapsIn 15 = .ok (.ishr, 1) := by decide +kernel
theorem dX11_gapsIn_16 : decode cX11_gapsIn 16 = .ok (.ior, 1) := by decide +kernel
theorem dX11_gapsIn_17 : decode cX11_gapsIn 17 = .ok (.istore_n 1, 1) := by decide +kernel
theorem dX11_gapsIn_18 : decode cX11_gapsIn 18 = .ok (.iload_n 1, 1) := by decide +kernel
theorem dX11_gapsIn_19 : decode cX11_gapsIn 19 = .ok (.iload_n 1, 1) := by decide +kernel
theorem dX11_gapsIn_20 : decode cX11_gapsIn 20 = .ok (.bipush 8, 2) := by decide +kernel
theorem dX11_gapsIn_22 : decode cX11_gapsIn 22 = .ok (.ishr, 1) := by decide +kernel
theorem dX11_gapsIn_23 : decode cX11_gapsIn 23 = .ok (.ior, 1) := by decide +kernel
theorem dX11_gapsIn_24 : decode cX11_gapsIn 24 = .ok (.istore_n 1, 1) := by decide +kernel
theorem dX11_gapsIn_25 : decode cX11_gapsIn 25 = .ok (.iload_n 1, 1) := by decide +kernel
theorem dX11_gapsIn_26 : decode cX11_gapsIn 26 = .ok (.iload_n 1, 1) := by decide +kernel
theorem dX11_gapsIn_27 : decode cX11_gapsIn 27 = .ok (.bipush 16, 2) := by decide +kernel
theorem dX11_gapsIn_29 : decode cX11_gapsIn 29 = .ok (.ishr, 1) := by decide +kernel
theorem dX11_gapsIn_30 : decode cX11_gapsIn 30 = .ok (.ior, 1) := by decide +kernel
theorem dX11_gapsIn_31 : decode cX11_gapsIn 31 = .ok (.istore_n 1, 1) := by decide +kernel
theorem dX11_gapsIn_32 : decode cX11_gapsIn 32 = .ok (.iload_n 0, 1) := by decide +kernel
theorem dX11_gapsIn_33 : decode cX11_gapsIn 33 = .ok (.iload_n 0, 1) := by decide +kernel
theorem dX11_gapsIn_34 : decode cX11_gapsIn 34 = .ok (.ineg, 1) := by decide +kernel
theorem dX11_gapsIn_35 : decode cX11_gapsIn 35 = .ok (.ior, 1) := by decide +kernel
theorem dX11_gapsIn_36 : decode cX11_gapsIn 36 = .ok (.istore_n 2, 1) := by decide +kernel
theorem dX11_gapsIn_37 : decode cX11_gapsIn 37 = .ok (.iload_n 1, 1) := by decide +kernel
theorem dX11_gapsIn_38 : decode cX11_gapsIn 38 = .ok (.iload_n 2, 1) := by decide +kernel
theorem dX11_gapsIn_39 : decode cX11_gapsIn 39 = .ok (.iand, 1) := by decide +kernel
theorem dX11_gapsIn_40 : decode cX11_gapsIn 40 = .ok (.iload_n 0, 1) := by decide +kernel
theorem dX11_gapsIn_41 : decode cX11_gapsIn 41 = .ok (.iconst (-1), 1) := by decide +kernel
theorem dX11_gapsIn_42 : decode cX11_gapsIn 42 = .ok (.ixor, 1) := by decide +kernel
theorem dX11_gapsIn_43 : decode cX11_gapsIn 43 = .ok (.iand, 1) := by decide +kernel
theorem dX11_gapsIn_44 : decode cX11_gapsIn 44 = .ok (.invokestatic 223, 3) := by decide +kernel
theorem dX11_gapsIn_47 : decode cX11_gapsIn 47 = .ok (.ireturn, 1) := by decide +kernel
noncomputable def tX11_gapsIn_0 : qT (Int32 × qM) :=
  oLi 0 (oLi 0 (oC (.int (1 : Int32)) (o2 (fun x y => x >>> (y &&& 31)) (o2 (· ||| ·) (oSi 1 (oLi 1 (oLi 1 (oC (.int (2 : Int32)) (o2 (fun x y => x >>> (y &&& 31)) (o2 (· ||| ·) (oSi 1 (oLi 1 (oLi 1 (oC (.int (4 : Int32)) (o2 (fun x y => x >>> (y &&& 31)) (o2 (· ||| ·) (oSi 1 (oLi 1 (oLi 1 (oC (.int (8 : Int32)) (o2 (fun x y => x >>> (y &&& 31)) (o2 (· ||| ·) (oSi 1 (oLi 1 (oLi 1 (oC (.int (16 : Int32)) (o2 (fun x y => x >>> (y &&& 31)) (o2 (· ||| ·) (oSi 1 (oLi 0 (oLi 0 (o1 (-·) (o2 (· ||| ·) (oSi 2 (oLi 1 (oLi 2 (o2 (· &&& ·) (oLi 0 (oC (.int (-1 : Int32)) (o2 (· ^^^ ·) (o2 (· &&& ·) (oCi GJ6_bitCount_0f7a4 1 (eI)))))))))))))))))))))))))))))))))))))))))))
set_option maxRecDepth 20000 in
theorem sX11_gapsIn_0 {C : qCx} {w : qWp} (h : qOk C w RX11 cX11_gapsIn 3 1 155 155) (hm : qMt C (some .int)) (hx : qNx C) : qSnd C w 3 155 (qQf C w 155 155 jI) qfin 155 0 (tX11_gapsIn_0) :=
  cLi (pc := 0) h dX11_gapsIn_0 rfl (cLi (pc := 1) h dX11_gapsIn_1 rfl (cC (pc := 2) h dX11_gapsIn_2 rfl (aShr (pc := 3) h dX11_gapsIn_3 (aOr (pc := 4) h dX11_gapsIn_4 (cSi (pc := 5) h dX11_gapsIn_5 rfl (cLi (pc := 6) h dX11_gapsIn_6 rfl (cLi (pc := 7) h dX11_gapsIn_7 rfl (cC (pc := 8) h dX11_gapsIn_8 rfl (aShr (pc := 9) h dX11_gapsIn_9 (aOr (pc := 10) h dX11_gapsIn_10 (cSi (pc := 11) h dX11_gapsIn_11 rfl (cLi (pc := 12) h dX11_gapsIn_12 rfl (cLi (pc := 13) h dX11_gapsIn_13 rfl (cC (pc := 14) h dX11_gapsIn_14 rfl (aShr (pc := 15) h dX11_gapsIn_15 (aOr (pc := 16) h dX11_gapsIn_16 (cSi (pc := 17) h dX11_gapsIn_17 rfl (cLi (pc := 18) h dX11_gapsIn_18 rfl (cLi (pc := 19) h dX11_gapsIn_19 rfl (cB (pc := 20) h dX11_gapsIn_20 rfl (aShr (pc := 22) h dX11_gapsIn_22 (aOr (pc := 23) h dX11_gapsIn_23 (cSi (pc := 24) h dX11_gapsIn_24 rfl (cLi (pc := 25) h dX11_gapsIn_25 rfl (cLi (pc := 26) h dX11_gapsIn_26 rfl (cB (pc := 27) h dX11_gapsIn_27 rfl (aShr (pc := 29) h dX11_gapsIn_29 (aOr (pc := 30) h dX11_gapsIn_30 (cSi (pc := 31) h dX11_gapsIn_31 rfl (cLi (pc := 32) h dX11_gapsIn_32 rfl (cLi (pc := 33) h dX11_gapsIn_33 rfl (aNeg (pc := 34) h dX11_gapsIn_34 (aOr (pc := 35) h dX11_gapsIn_35 (cSi (pc := 36) h dX11_gapsIn_36 rfl (cLi (pc := 37) h dX11_gapsIn_37 rfl (cLi (pc := 38) h dX11_gapsIn_38 rfl (aAnd (pc := 39) h dX11_gapsIn_39 (cLi (pc := 40) h dX11_gapsIn_40 rfl (cC (pc := 41) h dX11_gapsIn_41 rfl (aXor (pc := 42) h dX11_gapsIn_42 (aAnd (pc := 43) h dX11_gapsIn_43 (kCi (pc := 44) h (kd_X11_223 h dX11_gapsIn_44) spJ6_bitCount_0f7a4 (by decide) (by decide) (by decide) (by decide) (zI (pc := 47) h hm (Nat.le_refl _) dX11_gapsIn_47)))))))))))))))))))))))))))))))))))))))))))
set_option maxRecDepth 20000 in
theorem lX11_gapsIn_0 (a0 : Int32) (m : qM) : tX11_gapsIn_0 [some (.int a0), none, none] [] m = fX11_gapsIn_0 a0 m := rfl
noncomputable def GX11_gapsIn : qG Int32 := fun av m => match av with
  | [.int a0] => fX11_gapsIn a0 m
  | _ => none
theorem spX11_gapsIn : qSpI yX11_gapsIn (.code yX11_gapsIn cX11_gapsIn 3 (some .int)) 1 qfin 155 155 0 GX11_gapsIn := by
  intro av m x m' hG
  unfold GX11_gapsIn at hG
  split at hG
  · rename_i a0
    rw [fX11_gapsIn_d] at hG
    exact ⟨qmeet (J := jI) (r := (x, m')) (av := [.int a0]) (by decide +kernel) (Nat.le_of_ble_eq_true rfl) (fun C w h hm hx hn => sX11_gapsIn_0 h hm hx) ((lX11_gapsIn_0 _ _).trans hG) (Nat.le_of_ble_eq_true rfl), trivial⟩
  · cases hG
theorem im_X11_gapsIn : Jvm.Cond.static yX11_gapsIn ∈ qTw := qm4 (List.mem_of_getElem? (i := 113) (by decide +kernel)) (by decide +kernel)
theorem co_X11_gapsIn : Jvm.Cond.code yX11_gapsIn cX11_gapsIn 3 (some .int) ∈ qTw := qm4 (List.mem_of_getElem? (i := 114) (by decide +kernel)) (by decide +kernel)
theorem yk_X11_gapsIn : qYk yX11_gapsIn 1 := ⟨⟨by decide +kernel, by decide +kernel⟩, by decide +kernel⟩
theorem ml_X4_79 : Jvm.Cond.methodLinkNest RX4 79 yX11_gapsIn "ParentEve" ∈ qTw := qm4 (List.mem_of_getElem? (i := 112) (by decide +kernel)) (by decide +kernel)
theorem kd_X4_79 {C : qCx} {w : qWp} {cc : ByteArray} {nL dp n0 n1 pc : Nat} (h : qOk C w RX4 cc nL dp n0 n1) (d : decode cc pc = .ok (.invokestatic 79, 3)) : qCallOk C w nL dp n0 n1 pc 1 0 yX11_gapsIn (.code yX11_gapsIn cX11_gapsIn 3 (some .int)) := kindSN h d ml_X4_79 im_X11_gapsIn in_ParentEve co_X11_gapsIn yk_X11_gapsIn (by decide)
theorem dX4_mark_0 : decode cX4_mark 0 = .ok (.aload_n 0, 1) := by decide +kernel
theorem dX4_mark_1 : decode cX4_mark 1 = .ok (.getfield 9, 3) := by decide +kernel
theorem dX4_mark_4 : decode cX4_mark 4 = .ok (.iload_n 1, 1) := by decide +kernel
theorem dX4_mark_5 : decode cX4_mark 5 = .ok (.iaload, 1) := by decide +kernel
theorem dX4_mark_6 : decode cX4_mark 6 = .ok (.istore_n 3, 1) := by decide +kernel
theorem dX4_mark_7 : decode cX4_mark 7 = .ok (.iconst 1, 1) := by decide +kernel
theorem dX4_mark_8 : decode cX4_mark 8 = .ok (.iload_n 2, 1) := by decide +kernel
theorem dX4_mark_9 : decode cX4_mark 9 = .ok (.ishl, 1) := by decide +kernel
theorem dX4_mark_10 : decode cX4_mark 10 = .ok (.istore 4, 2) := by decide +kernel
theorem dX4_mark_12 : decode cX4_mark 12 = .ok (.aload_n 0, 1) := by decide +kernel
theorem dX4_mark_13 : decode cX4_mark 13 = .ok (.dup, 1) := by decide +kernel
theorem dX4_mark_14 : decode cX4_mark 14 = .ok (.getfield 53, 3) := by decide +kernel
theorem dX4_mark_17 : decode cX4_mark 17 = .ok (.aload_n 0, 1) := by decide +kernel
theorem dX4_mark_18 : decode cX4_mark 18 = .ok (.getfield 31, 3) := by decide +kernel
theorem dX4_mark_21 : decode cX4_mark 21 = .ok (.iload_n 3, 1) := by decide +kernel
theorem dX4_mark_22 : decode cX4_mark 22 = .ok (.iaload, 1) := by decide +kernel
theorem dX4_mark_23 : decode cX4_mark 23 = .ok (.invokestatic 79, 3) := by decide +kernel
theorem dX4_mark_26 : decode cX4_mark 26 = .ok (.isub, 1) := by decide +kernel
theorem dX4_mark_27 : decode cX4_mark 27 = .ok (.putfield 53, 3) := by decide +kernel
theorem dX4_mark_30 : decode cX4_mark 30 = .ok (.aload_n 0, 1) := by decide +kernel
theorem dX4_mark_31 : decode cX4_mark 31 = .ok (.getfield 31, 3) := by decide +kernel
theorem dX4_mark_34 : decode cX4_mark 34 = .ok (.iload_n 3, 1) := by decide +kernel
theorem dX4_mark_35 : decode cX4_mark 35 = .ok (.dup2, 1) := by decide +kernel
theorem dX4_mark_36 : decode cX4_mark 36 = .ok (.iaload, 1) := by decide +kernel
theorem dX4_mark_37 : decode cX4_mark 37 = .ok (.iload 4, 2) := by decide +kernel
theorem dX4_mark_39 : decode cX4_mark 39 = .ok (.ixor, 1) := by decide +kernel
theorem dX4_mark_40 : decode cX4_mark 40 = .ok (.iastore, 1) := by decide +kernel
theorem dX4_mark_41 : decode cX4_mark 41 = .ok (.aload_n 0, 1) := by decide +kernel
theorem dX4_mark_42 : decode cX4_mark 42 = .ok (.dup, 1) := by decide +kernel
theorem dX4_mark_43 : decode cX4_mark 43 = .ok (.getfield 53, 3) := by decide +kernel
theorem dX4_mark_46 : decode cX4_mark 46 = .ok (.aload_n 0, 1) := by decide +kernel
theorem dX4_mark_47 : decode cX4_mark 47 = .ok (.getfield 31, 3) := by decide +kernel
theorem dX4_mark_50 : decode cX4_mark 50 = .ok (.iload_n 3, 1) := by decide +kernel
theorem dX4_mark_51 : decode cX4_mark 51 = .ok (.iaload, 1) := by decide +kernel
theorem dX4_mark_52 : decode cX4_mark 52 = .ok (.invokestatic 79, 3) := by decide +kernel
theorem dX4_mark_55 : decode cX4_mark 55 = .ok (.iadd, 1) := by decide +kernel
theorem dX4_mark_56 : decode cX4_mark 56 = .ok (.putfield 53, 3) := by decide +kernel
theorem dX4_mark_59 : decode cX4_mark 59 = .ok (.aload_n 0, 1) := by decide +kernel
theorem dX4_mark_60 : decode cX4_mark 60 = .ok (.getfield 34, 3) := by decide +kernel
theorem dX4_mark_63 : decode cX4_mark 63 = .ok (.aload_n 0, 1) := by decide +kernel
theorem dX4_mark_64 : decode cX4_mark 64 = .ok (.getfield 15, 3) := by decide +kernel
theorem dX4_mark_67 : decode cX4_mark 67 = .ok (.iload_n 1, 1) := by decide +kernel
theorem dX4_mark_68 : decode cX4_mark 68 = .ok (.iaload, 1) := by decide +kernel
theorem dX4_mark_69 : decode cX4_mark 69 = .ok (.dup2, 1) := by decide +kernel
theorem dX4_mark_70 : decode cX4_mark 70 = .ok (.iaload, 1) := by decide +kernel
theorem dX4_mark_71 : decode cX4_mark 71 = .ok (.iload 4, 2) := by decide +kernel
theorem dX4_mark_73 : decode cX4_mark 73 = .ok (.ixor, 1) := by decide +kernel
theorem dX4_mark_74 : decode cX4_mark 74 = .ok (.iastore, 1) := by decide +kernel
theorem dX4_mark_75 : decode cX4_mark 75 = .ok (.aload_n 0, 1) := by decide +kernel
theorem dX4_mark_76 : decode cX4_mark 76 = .ok (.getfield 63, 3) := by decide +kernel
theorem dX4_mark_79 : decode cX4_mark 79 = .ok (.iload_n 3, 1) := by decide +kernel
theorem dX4_mark_80 : decode cX4_mark 80 = .ok (.invokevirtual 83, 3) := by decide +kernel
theorem dX4_mark_83 : decode cX4_mark 83 = .ok (.ifCond .le 21, 3) := by decide +kernel
theorem dX4_mark_86 : decode cX4_mark 86 = .ok (.aload_n 0, 1) := by decide +kernel
theorem dX4_mark_87 : decode cX4_mark 87 = .ok (.getfield 37, 3) := by decide +kernel
theorem dX4_mark_90 : decode cX4_mark 90 = .ok (.aload_n 0, 1) := by decide +kernel
theorem dX4_mark_91 : decode cX4_mark 91 = .ok (.getfield 63, 3) := by decide +kernel
theorem dX4_mark_94 : decode cX4_mark 94 = .ok (.iload_n 3, 1) := by decide +kernel
theorem dX4_mark_95 : decode cX4_mark 95 = .ok (.invokevirtual 83, 3) := by decide +kernel
theorem dX4_mark_98 : decode cX4_mark 98 = .ok (.dup2, 1) := by decide +kernel
theorem dX4_mark_99 : decode cX4_mark 99 = .ok (.iaload, 1) := by decide +kernel
theorem dX4_mark_100 : decode cX4_mark 100 = .ok (.iload 4, 2) := by decide +kernel
theorem dX4_mark_102 : decode cX4_mark 102 = .ok (.ixor, 1) := by decide +kernel
theorem dX4_mark_103 : decode cX4_mark 103 = .ok (.iastore, 1) := by decide +kernel
theorem dX4_mark_104 : decode cX4_mark 104 = .ok (.return_, 1) := by decide +kernel
noncomputable def tX4_mark_64 : qT (Unit × qM) :=
  eV
noncomputable def wX4_mark_64 (k : qM → Option (Unit × qM)) : qT (Unit × qM) := fun lo st m => match lo, st with
  | [_, _, _, _, _], [] => k m
  | _, _ => none
set_option maxRecDepth 20000 in
theorem sX4_mark_64 {C : qCx} {w : qWp} (h : qOk C w RX4 cX4_mark 5 2 155 155) (hm : qMt C none) (hx : qNx C) : qSnd C w 5 155 (qQf C w 155 155 jV) qfin 155 104 (tX4_mark_64) :=
  zV (pc := 104) h hm (Nat.le_refl _) dX4_mark_104
set_option maxRecDepth 20000 in
theorem lX4_mark_64 (m : qM) : tX4_mark_64 [none, none, none, none, none] [] m = fX4_mark_64 m := rfl
theorem bX4_mark_64 {C : qCx} {w : qWp} (h : qOk C w RX4 cX4_mark 5 2 155 155) (hm : qMt C none) (hx : qNx C) : qSnd C w 5 155 (qQf C w 155 155 jV) qfin 155 104 (wX4_mark_64 fX4_mark_64) :=
  qSnd_of (fun lo st m x hr0 => by
    unfold wX4_mark_64 at hr0
    split at hr0
    · exact ⟨_, (qsub_n (qsub_n (qsub_n (qsub_n (qsub_n qsub_nil))))), (lX4_mark_64 _).trans hr0⟩
    · cases hr0) (sX4_mark_64 h hm hx)
noncomputable def tX4_mark_0 (j64 : qT (Unit × qM)) : qT (Unit × qM) :=
  oLa 0 (oGf 58 2 59 (oLi 1 (oAi 59 40 (oSi 3 (oC (.int (1 : Int32)) (oLi 2 (o2 (fun x y => x <<< (y &&& 31)) (oSi 4 (oLa 0 (oDup (oGi 58 15 (oLa 0 (oGf 58 8 65 (oLi 3 (oAi 65 15 (oCi GX11_gapsIn 1 (o2 (· - ·) (oPi 58 15 (oLa 0 (oGf 58 8 65 (oLi 3 (oDup2 (oAi 65 15 (oLi 4 (o2 (· ^^^ ·) (oWi 65 15 (oLa 0 (oDup (oGi 58 15 (oLa 0 (oGf 58 8 65 (oLi 3 (oAi 65 15 (oCi GX11_gapsIn 1 (o2 (· + ·) (oPi 58 15 (oLa 0 (oGf 58 9 66 (oLa 0 (oGf 58 3 60 (oLi 1 (oAi 60 40 (oDup2 (oAi 66 10 (oLi 4 (o2 (· ^^^ ·) (oWi 66 10 (oLa 0 (oGf 58 1 47 (oLi 3 (oCi GX3_tongueOf 2 (oLe (j64) (oLa 0 (oGf 58 10 67 (oLa 0 (oGf 58 1 47 (oLi 3 (oCi GX3_tongueOf 2 (oDup2 (oAi 67 4 (oLi 4 (o2 (· ^^^ ·) (oWi 67 4 (j64))))))))))))))))))))))))))))))))))))))))))))))))))))))))))))))))
set_option maxRecDepth 20000 in
theorem sX4_mark_0 {C : qCx} {w : qWp} (h : qOk C w RX4 cX4_mark 5 2 155 155) (hm : qMt C none) (hx : qNx C) {j64 : qT (Unit × qM)} (k64 : qSnd C w 5 155 (qQf C w 155 155 jV) qfin 155 104 j64) : qSnd C w 5 155 (qQf C w 155 155 jV) qfin 155 0 (tX4_mark_0 j64) :=
  cLa (pc := 0) h dX4_mark_0 rfl (gGf (pc := 1) h dX4_mark_1 ff_X4_9_58 (Nat.le_of_ble_eq_true rfl) (Nat.le_of_ble_eq_true rfl) rfl (cLi (pc := 4) h dX4_mark_4 rfl (rAi (pc := 5) h dX4_mark_5 rfl (Nat.le_of_ble_eq_true rfl) (Nat.le_of_ble_eq_true rfl) (cSi (pc := 6) h dX4_mark_6 rfl (cC (pc := 7) h dX4_mark_7 rfl (cLi (pc := 8) h dX4_mark_8 rfl (aShl (pc := 9) h dX4_mark_9 (cSI (pc := 10) h dX4_mark_10 (cLa (pc := 12) h dX4_mark_12 rfl (aDup (pc := 13) h dX4_mark_13 (gGi (pc := 14) h dX4_mark_14 ff_X4_53_58 (Nat.le_of_ble_eq_true rfl) (Nat.le_of_ble_eq_true rfl) (cLa (pc := 17) h dX4_mark_17 rfl (gGf (pc := 18) h dX4_mark_18 ff_X4_31_58 (Nat.le_of_ble_eq_true rfl) (Nat.le_of_ble_eq_true rfl) rfl (cLi (pc := 21) h dX4_mark_21 rfl (rAi (pc := 22) h dX4_mark_22 rfl (Nat.le_of_ble_eq_true rfl) (Nat.le_of_ble_eq_true rfl) (kCi (pc := 23) h (kd_X4_79 h dX4_mark_23) spX11_gapsIn (by decide) (by decide) (by decide) (by decide) (aSub (pc := 26) h dX4_mark_26 (gPi (pc := 27) h dX4_mark_27 ff_X4_53_58 (Or.inl rfl) (Nat.le_of_ble_eq_true rfl) (Nat.le_of_ble_eq_true rfl) (cLa (pc := 30) h dX4_mark_30 rfl (gGf (pc := 31) h dX4_mark_31 ff_X4_31_58 (Nat.le_of_ble_eq_true rfl) (Nat.le_of_ble_eq_true rfl) rfl (cLi (pc := 34) h dX4_mark_34 rfl (aDup2 (pc := 35) h dX4_mark_35 (rAi (pc := 36) h dX4_mark_36 rfl (Nat.le_of_ble_eq_true rfl) (Nat.le_of_ble_eq_true rfl) (cLI (pc := 37) h dX4_mark_37 (aXor (pc := 39) h dX4_mark_39 (rWi (pc := 40) h dX4_mark_40 rfl (Nat.le_of_ble_eq_true rfl) (Nat.le_of_ble_eq_true rfl) (cLa (pc := 41) h dX4_mark_41 rfl (aDup (pc := 42) h dX4_mark_42 (gGi (pc := 43) h dX4_mark_43 ff_X4_53_58 (Nat.le_of_ble_eq_true rfl) (Nat.le_of_ble_eq_true rfl) (cLa (pc := 46) h dX4_mark_46 rfl (gGf (pc := 47) h dX4_mark_47 ff_X4_31_58 (Nat.le_of_ble_eq_true rfl) (Nat.le_of_ble_eq_true rfl) rfl (cLi (pc := 50) h dX4_mark_50 rfl (rAi (pc := 51) h dX4_mark_51 rfl (Nat.le_of_ble_eq_true rfl) (Nat.le_of_ble_eq_true rfl) (kCi (pc := 52) h (kd_X4_79 h dX4_mark_52) spX11_gapsIn (by decide) (by decide) (by decide) (by decide) (aAdd (pc := 55) h dX4_mark_55 (gPi (pc := 56) h dX4_mark_56 ff_X4_53_58 (Or.inl rfl) (Nat.le_of_ble_eq_true rfl) (Nat.le_of_ble_eq_true rfl) (cLa (pc := 59) h dX4_mark_59 rfl (gGf (pc := 60) h dX4_mark_60 ff_X4_34_58 (Nat.le_of_ble_eq_true rfl) (Nat.le_of_ble_eq_true rfl) rfl (cLa (pc := 63) h dX4_mark_63 rfl (gGf (pc := 64) h dX4_mark_64 ff_X4_15_58 (Nat.le_of_ble_eq_true rfl) (Nat.le_of_ble_eq_true rfl) rfl (cLi (pc := 67) h dX4_mark_67 rfl (rAi (pc := 68) h dX4_mark_68 rfl (Nat.le_of_ble_eq_true rfl) (Nat.le_of_ble_eq_true rfl) (aDup2 (pc := 69) h dX4_mark_69 (rAi (pc := 70) h dX4_mark_70 rfl (Nat.le_of_ble_eq_true rfl) (Nat.le_of_ble_eq_true rfl) (cLI (pc := 71) h dX4_mark_71 (aXor (pc := 73) h dX4_mark_73 (rWi (pc := 74) h dX4_mark_74 rfl (Nat.le_of_ble_eq_true rfl) (Nat.le_of_ble_eq_true rfl) (cLa (pc := 75) h dX4_mark_75 rfl (gGf (pc := 76) h dX4_mark_76 ff_X4_63_58 (Nat.le_of_ble_eq_true rfl) (Nat.le_of_ble_eq_true rfl) rfl (cLi (pc := 79) h dX4_mark_79 rfl (kCi (pc := 80) h (kd_X4_83 h dX4_mark_80) spX3_tongueOf (by decide) (by decide) (by decide) (by decide) (jLe (pc := 83) h dX4_mark_83 rfl (k64) (cLa (pc := 86) h dX4_mark_86 rfl (gGf (pc := 87) h dX4_mark_87 ff_X4_37_58 (Nat.le_of_ble_eq_true rfl) (Nat.le_of_ble_eq_true rfl) rfl (cLa (pc := 90) h dX4_mark_90 rfl (gGf (pc := 91) h dX4_mark_91 ff_X4_63_58 (Nat.le_of_ble_eq_true rfl) (Nat.le_of_ble_eq_true rfl) rfl (cLi (pc := 94) h dX4_mark_94 rfl (kCi (pc := 95) h (kd_X4_83 h dX4_mark_95) spX3_tongueOf (by decide) (by decide) (by decide) (by decide) (aDup2 (pc := 98) h dX4_mark_98 (rAi (pc := 99) h dX4_mark_99 rfl (Nat.le_of_ble_eq_true rfl) (Nat.le_of_ble_eq_true rfl) (cLI (pc := 100) h dX4_mark_100 (aXor (pc := 102) h dX4_mark_102 (rWi (pc := 103) h dX4_mark_103 rfl (Nat.le_of_ble_eq_true rfl) (Nat.le_of_ble_eq_true rfl) (k64))))))))))))))))))))))))))))))))))))))))))))))))))))))))))))))))
set_option maxRecDepth 20000 in
theorem lX4_mark_0 (a1 : Int32) (a2 : Int32) (m : qM) : tX4_mark_0 (wX4_mark_64 fX4_mark_64) [some (.ref 58), some (.int a1), some (.int a2), none, none] [] m = fX4_mark_0 a1 a2 m := rfl
noncomputable def GX4_mark : qG Unit := fun av m => match av with
  | [.ref 58, .int a1, .int a2] => fX4_mark a1 a2 m
  | _ => none
theorem spX4_mark : qSpV yX4_mark (.code yX4_mark cX4_mark 5 none) 2 qfin 155 155 1 GX4_mark := by
  intro av m m' hG
  unfold GX4_mark at hG
  split at hG
  · rename_i a1 a2
    rw [fX4_mark_d] at hG
    exact ⟨qmeet (J := jV) (r := ((), m')) (av := [.ref 58, .int a1, .int a2]) (by decide +kernel) (Nat.le_of_ble_eq_true rfl) (fun C w h hm hx hn => sX4_mark_0 h hm hx (bX4_mark_64 h hm hx)) ((lX4_mark_0 _ _ _).trans hG) (Nat.le_of_ble_eq_true rfl), Or.inl ⟨58, _, 4, _, _, rfl, by decide, rfl, qCk_4, rfl⟩⟩
  · cases hG
theorem im_X3_wishOf : Jvm.Cond.instanceMethod yX3_wishOf ∈ qTw := qm4 (List.mem_of_getElem? (i := 126) (by decide +kernel)) (by decide +kernel)
theorem se_X3_wishOf : Jvm.Cond.selects yX3_wishOf.cls yX3_wishOf yX3_wishOf ∈ qTw := qm4 (List.mem_of_getElem? (i := 127) (by decide +kernel)) (by decide +kernel)
theorem co_X3_wishOf : Jvm.Cond.code yX3_wishOf cX3_wishOf 2 (some .int) ∈ qTw := qm4 (List.mem_of_getElem? (i := 128) (by decide +kernel)) (by decide +kernel)
theorem yk_X3_wishOf : qYk yX3_wishOf 1 := ⟨⟨by decide +kernel, by decide +kernel⟩, by decide +kernel⟩
theorem ml_X4_128 : Jvm.Cond.methodLink RX4 128 yX3_wishOf ∈ qTw := qm4 (List.mem_of_getElem? (i := 125) (by decide +kernel)) (by decide +kernel)
theorem kd_X4_128 {C : qCx} {w : qWp} {cc : ByteArray} {nL dp n0 n1 pc : Nat} (h : qOk C w RX4 cc nL dp n0 n1) (d : decode cc pc = .ok (.invokevirtual 128, 3)) : qCallOk C w nL dp n0 n1 pc 2 1 yX3_wishOf (.code yX3_wishOf cX3_wishOf 2 (some .int)) := kindV h d ml_X4_128 im_X3_wishOf se_X3_wishOf in_ParentEve_People co_X3_wishOf yk_X3_wishOf (by decide)
theorem im_X3_yearsOf : Jvm.Cond.instanceMethod yX3_yearsOf ∈ qTw := qm4 (List.mem_of_getElem? (i := 130) (by decide +kernel)) (by decide +kernel)
theorem se_X3_yearsOf : Jvm.Cond.selects yX3_yearsOf.cls yX3_yearsOf yX3_yearsOf ∈ qTw := qm4 (List.mem_of_getElem? (i := 131) (by decide +kernel)) (by decide +kernel)
theorem co_X3_yearsOf : Jvm.Cond.code yX3_yearsOf cX3_yearsOf 2 (some .int) ∈ qTw := qm4 (List.mem_of_getElem? (i := 132) (by decide +kernel)) (by decide +kernel)
theorem yk_X3_yearsOf : qYk yX3_yearsOf 1 := ⟨⟨by decide +kernel, by decide +kernel⟩, by decide +kernel⟩
theorem ml_X4_131 : Jvm.Cond.methodLink RX4 131 yX3_yearsOf ∈ qTw := qm4 (List.mem_of_getElem? (i := 129) (by decide +kernel)) (by decide +kernel)
theorem kd_X4_131 {C : qCx} {w : qWp} {cc : ByteArray} {nL dp n0 n1 pc : Nat} (h : qOk C w RX4 cc nL dp n0 n1) (d : decode cc pc = .ok (.invokevirtual 131, 3)) : qCallOk C w nL dp n0 n1 pc 2 1 yX3_yearsOf (.code yX3_yearsOf cX3_yearsOf 2 (some .int)) := kindV h d ml_X4_131 im_X3_yearsOf se_X3_yearsOf in_ParentEve_People co_X3_yearsOf yk_X3_yearsOf (by decide)
theorem dX4_pointsIn_0 : decode cX4_pointsIn 0 = .ok (.aload_n 0, 1) := by decide +kernel
theorem dX4_pointsIn_1 : decode cX4_pointsIn 1 = .ok (.getfield 9, 3) := by decide +kernel
theorem dX4_pointsIn_4 : decode cX4_pointsIn 4 = .ok (.iload_n 1, 1) := by decide +kernel
theorem dX4_pointsIn_5 : decode cX4_pointsIn 5 = .ok (.iaload, 1) := by decide +kernel
theorem dX4_pointsIn_6 : decode cX4_pointsIn 6 = .ok (.istore_n 3, 1) := by decide +kernel
theorem dX4_pointsIn_7 : decode cX4_pointsIn 7 = .ok (.aload_n 0, 1) := by decide +kernel
theorem dX4_pointsIn_8 : decode cX4_pointsIn 8 = .ok (.getfield 63, 3) := by decide +kernel
theorem dX4_pointsIn_11 : decode cX4_pointsIn 11 = .ok (.iload_n 3, 1) := by decide +kernel
theorem dX4_pointsIn_12 : decode cX4_pointsIn 12 = .ok (.invokevirtual 128, 3) := by decide +kernel
theorem dX4_pointsIn_15 : decode cX4_pointsIn 15 = .ok (.iload_n 2, 1) := by decide +kernel
theorem dX4_pointsIn_16 : decode cX4_pointsIn 16 = .ok (.invokestatic 119, 3) := by decide +kernel
theorem dX4_pointsIn_19 : decode cX4_pointsIn 19 = .ok (.ifCond .eq 16, 3) := by decide +kernel
theorem dX4_pointsIn_22 : decode cX4_pointsIn 22 = .ok (.iconst 1, 1) := by decide +kernel
theorem dX4_pointsIn_23 : decode cX4_pointsIn 23 = .ok (.aload_n 0, 1) := by decide +kernel
theorem dX4_pointsIn_24 : decode cX4_pointsIn 24 = .ok (.getfield 63, 3) := by decide +kernel
theorem dX4_pointsIn_27 : decode cX4_pointsIn 27 = .ok (.iload_n 3, 1) := by decide +kernel
theorem dX4_pointsIn_28 : decode cX4_pointsIn 28 = .ok (.invokevirtual 131, 3) := by decide +kernel
theorem dX4_pointsIn_31 : decode cX4_pointsIn 31 = .ok (.iadd, 1) := by decide +kernel
theorem dX4_pointsIn_32 : decode cX4_pointsIn 32 = .ok (.goto 4, 3) := by decide +kernel
theorem dX4_pointsIn_35 : decode cX4_pointsIn 35 = .ok (.iconst 0, 1) := by decide +kernel
theorem dX4_pointsIn_36 : decode cX4_pointsIn 36 = .ok (.ireturn, 1) := by decide +kernel
noncomputable def tX4_pointsIn_20 : qT (Int32 × qM) :=
  eI
noncomputable def wX4_pointsIn_20 (k : Int32 → qM → Option (Int32 × qM)) : qT (Int32 × qM) := fun lo st m => match lo, st with
  | [_, _, _, _], [.int s0] => k s0 m
  | _, _ => none
set_option maxRecDepth 20000 in
theorem sX4_pointsIn_20 {C : qCx} {w : qWp} (h : qOk C w RX4 cX4_pointsIn 4 1 155 155) (hm : qMt C (some .int)) (hx : qNx C) : qSnd C w 4 155 (qQf C w 155 155 jI) qfin 155 36 (tX4_pointsIn_20) :=
  zI (pc := 36) h hm (Nat.le_refl _) dX4_pointsIn_36
set_option maxRecDepth 20000 in
theorem lX4_pointsIn_20 (s0 : Int32) (m : qM) : tX4_pointsIn_20 [none, none, none, none] [(.int s0)] m = fX4_pointsIn_20 s0 m := rfl
theorem bX4_pointsIn_20 {C : qCx} {w : qWp} (h : qOk C w RX4 cX4_pointsIn 4 1 155 155) (hm : qMt C (some .int)) (hx : qNx C) : qSnd C w 4 155 (qQf C w 155 155 jI) qfin 155 36 (wX4_pointsIn_20 fX4_pointsIn_20) :=
  qSnd_of (fun lo st m x hr0 => by
    unfold wX4_pointsIn_20 at hr0
    split at hr0
    · exact ⟨_, (qsub_n (qsub_n (qsub_n (qsub_n qsub_nil)))), (lX4_pointsIn_20 _ _).trans hr0⟩
    · cases hr0) (sX4_pointsIn_20 h hm hx)
noncomputable def tX4_pointsIn_0 (j20 : qT (Int32 × qM)) : qT (Int32 × qM) :=
  oLa 0 (oGf 58 2 59 (oLi 1 (oAi 59 40 (oSi 3 (oLa 0 (oGf 58 1 47 (oLi 3 (oCi GX3_wishOf 2 (oLi 2 (oCi GX11_has 2 (oEq (oC (.int (0 : Int32)) (j20)) (oC (.int (1 : Int32)) (oLa 0 (oGf 58 1 47 (oLi 3 (oCi GX3_yearsOf 2 (o2 (· + ·) (j20))))))))))))))))))
set_option maxRecDepth 20000 in
theorem sX4_pointsIn_0 {C : qCx} {w : qWp} (h : qOk C w RX4 cX4_pointsIn 4 1 155 155) (hm : qMt C (some .int)) (hx : qNx C) {j20 : qT (Int32 × qM)} (k20 : qSnd C w 4 155 (qQf C w 155 155 jI) qfin 155 36 j20) : qSnd C w 4 155 (qQf C w 155 155 jI) qfin 155 0 (tX4_pointsIn_0 j20) :=
  cLa (pc := 0) h dX4_pointsIn_0 rfl (gGf (pc := 1) h dX4_pointsIn_1 ff_X4_9_58 (Nat.le_of_ble_eq_true rfl) (Nat.le_of_ble_eq_true rfl) rfl (cLi (pc := 4) h dX4_pointsIn_4 rfl (rAi (pc := 5) h dX4_pointsIn_5 rfl (Nat.le_of_ble_eq_true rfl) (Nat.le_of_ble_eq_true rfl) (cSi (pc := 6) h dX4_pointsIn_6 rfl (cLa (pc := 7) h dX4_pointsIn_7 rfl (gGf (pc := 8) h dX4_pointsIn_8 ff_X4_63_58 (Nat.le_of_ble_eq_true rfl) (Nat.le_of_ble_eq_true rfl) rfl (cLi (pc := 11) h dX4_pointsIn_11 rfl (kCi (pc := 12) h (kd_X4_128 h dX4_pointsIn_12) spX3_wishOf (by decide) (by decide) (by decide) (by decide) (cLi (pc := 15) h dX4_pointsIn_15 rfl (kCi (pc := 16) h (kd_X4_119 h dX4_pointsIn_16) spX11_has (by decide) (by decide) (by decide) (by decide) (jEq (pc := 19) h dX4_pointsIn_19 rfl (cC (pc := 35) h dX4_pointsIn_35 rfl (k20)) (cC (pc := 22) h dX4_pointsIn_22 rfl (cLa (pc := 23) h dX4_pointsIn_23 rfl (gGf (pc := 24) h dX4_pointsIn_24 ff_X4_63_58 (Nat.le_of_ble_eq_true rfl) (Nat.le_of_ble_eq_true rfl) rfl (cLi (pc := 27) h dX4_pointsIn_27 rfl (kCi (pc := 28) h (kd_X4_131 h dX4_pointsIn_28) spX3_yearsOf (by decide) (by decide) (by decide) (by decide) (aAdd (pc := 31) h dX4_pointsIn_31 (jGo (pc := 32) h dX4_pointsIn_32 rfl (k20)))))))))))))))))))
set_option maxRecDepth 20000 in
theorem lX4_pointsIn_0 (a1 : Int32) (a2 : Int32) (m : qM) : tX4_pointsIn_0 (wX4_pointsIn_20 fX4_pointsIn_20) [some (.ref 58), some (.int a1), some (.int a2), none] [] m = fX4_pointsIn_0 a1 a2 m := rfl
noncomputable def GX4_pointsIn : qG Int32 := fun av m => match av with
  | [.ref 58, .int a1, .int a2] => fX4_pointsIn a1 a2 m
  | _ => none
theorem spX4_pointsIn : qSpI yX4_pointsIn (.code yX4_pointsIn cX4_pointsIn 4 (some .int)) 1 qfin 155 155 1 GX4_pointsIn := by
  intro av m x m' hG
  unfold GX4_pointsIn at hG
  split at hG
  · rename_i a1 a2
    rw [fX4_pointsIn_d] at hG
    exact ⟨qmeet (J := jI) (r := (x, m')) (av := [.ref 58, .int a1, .int a2]) (by decide +kernel) (Nat.le_of_ble_eq_true rfl) (fun C w h hm hx hn => sX4_pointsIn_0 h hm hx (bX4_pointsIn_20 h hm hx)) ((lX4_pointsIn_0 _ _ _).trans hG) (Nat.le_of_ble_eq_true rfl), Or.inl ⟨58, _, 4, _, _, rfl, by decide, rfl, qCk_4, rfl⟩⟩
  · cases hG
theorem im_X4_mark : Jvm.Cond.instanceMethod yX4_mark ∈ qTw := qm4 (List.mem_of_getElem? (i := 110) (by decide +kernel)) (by decide +kernel)
theorem se_X4_mark : Jvm.Cond.selects yX4_mark.cls yX4_mark yX4_mark ∈ qTw := List.mem_filter.mpr ⟨List.mem_append_left _ (List.mem_of_getElem? (i := 8) (by decide +kernel)), rfl⟩
theorem co_X4_mark : Jvm.Cond.code yX4_mark cX4_mark 5 none ∈ qTw := qm4 (List.mem_of_getElem? (i := 111) (by decide +kernel)) (by decide +kernel)
theorem yk_X4_mark : qYk yX4_mark 2 := ⟨⟨by decide +kernel, by decide +kernel⟩, by decide +kernel⟩
theorem ml_X4_71 : Jvm.Cond.methodLink RX4 71 yX4_mark ∈ qTw := qm4 (List.mem_of_getElem? (i := 108) (by decide +kernel)) (by decide +kernel)
theorem kd_X4_71 {C : qCx} {w : qWp} {cc : ByteArray} {nL dp n0 n1 pc : Nat} (h : qOk C w RX4 cc nL dp n0 n1) (d : decode cc pc = .ok (.invokevirtual 71, 3)) : qCallOk C w nL dp n0 n1 pc 3 1 yX4_mark (.code yX4_mark cX4_mark 5 none) := kindV h d ml_X4_71 im_X4_mark se_X4_mark in_ParentEve_Plan co_X4_mark yk_X4_mark (by decide)
theorem im_X4_pointsIn : Jvm.Cond.instanceMethod yX4_pointsIn ∈ qTw := qm4 (List.mem_of_getElem? (i := 123) (by decide +kernel)) (by decide +kernel)
theorem se_X4_pointsIn : Jvm.Cond.selects yX4_pointsIn.cls yX4_pointsIn yX4_pointsIn ∈ qTw := List.mem_filter.mpr ⟨List.mem_append_left _ (List.mem_of_getElem? (i := 9) (by decide +kernel)), rfl⟩
theorem co_X4_pointsIn : Jvm.Cond.code yX4_pointsIn cX4_pointsIn 4 (some .int) ∈ qTw := qm4 (List.mem_of_getElem? (i := 124) (by decide +kernel)) (by decide +kernel)
theorem yk_X4_pointsIn : qYk yX4_pointsIn 2 := ⟨⟨by decide +kernel, by decide +kernel⟩, by decide +kernel⟩
theorem ml_X4_75 : Jvm.Cond.methodLink RX4 75 yX4_pointsIn ∈ qTw := qm4 (List.mem_of_getElem? (i := 121) (by decide +kernel)) (by decide +kernel)
theorem kd_X4_75 {C : qCx} {w : qWp} {cc : ByteArray} {nL dp n0 n1 pc : Nat} (h : qOk C w RX4 cc nL dp n0 n1) (d : decode cc pc = .ok (.invokevirtual 75, 3)) : qCallOk C w nL dp n0 n1 pc 3 1 yX4_pointsIn (.code yX4_pointsIn cX4_pointsIn 4 (some .int)) := kindV h d ml_X4_75 im_X4_pointsIn se_X4_pointsIn in_ParentEve_Plan co_X4_pointsIn yk_X4_pointsIn (by decide)
theorem dX4_put_0 : decode cX4_put 0 = .ok (.aload_n 0, 1) := by decide +kernel
theorem dX4_put_1 : decode cX4_put 1 = .ok (.iload_n 1, 1) := by decide +kernel
theorem dX4_put_2 : decode cX4_put 2 = .ok (.iload_n 2, 1) := by decide +kernel
theorem dX4_put_3 : decode cX4_put 3 = .ok (.invokevirtual 71, 3) := by decide +kernel
theorem dX4_put_6 : decode cX4_put 6 = .ok (.aload_n 0, 1) := by decide +kernel
theorem dX4_put_7 : decode cX4_put 7 = .ok (.getfield 22, 3) := by decide +kernel
theorem dX4_put_10 : decode cX4_put 10 = .ok (.iload_n 1, 1) := by decide +kernel
theorem dX4_put_11 : decode cX4_put 11 = .ok (.iload_n 2, 1) := by decide +kernel
theorem dX4_put_12 : decode cX4_put 12 = .ok (.iastore, 1) := by decide +kernel
theorem dX4_put_13 : decode cX4_put 13 = .ok (.aload_n 0, 1) := by decide +kernel
theorem dX4_put_14 : decode cX4_put 14 = .ok (.getfield 28, 3) := by decide +kernel
theorem dX4_put_17 : decode cX4_put 17 = .ok (.aload_n 0, 1) := by decide +kernel
theorem dX4_put_18 : decode cX4_put 18 = .ok (.getfield 15, 3) := by decide +kernel
theorem dX4_put_21 : decode cX4_put 21 = .ok (.iload_n 1, 1) := by decide +kernel
theorem dX4_put_22 : decode cX4_put 22 = .ok (.iaload, 1) := by decide +kernel
theorem dX4_put_23 : decode cX4_put 23 = .ok (.bipush 20, 2) := by decide +kernel
theorem dX4_put_25 : decode cX4_put 25 = .ok (.imul, 1) := by decide +kernel
theorem dX4_put_26 : decode cX4_put 26 = .ok (.iload_n 2, 1) := by decide +kernel
theorem dX4_put_27 : decode cX4_put 27 = .ok (.iadd, 1) := by decide +kernel
theorem dX4_put_28 : decode cX4_put 28 = .ok (.iload_n 1, 1) := by decide +kernel
theorem dX4_put_29 : decode cX4_put 29 = .ok (.iastore, 1) := by decide +kernel
theorem dX4_put_30 : decode cX4_put 30 = .ok (.aload_n 0, 1) := by decide +kernel
theorem dX4_put_31 : decode cX4_put 31 = .ok (.dup, 1) := by decide +kernel
theorem dX4_put_32 : decode cX4_put 32 = .ok (.getfield 47, 3) := by decide +kernel
theorem dX4_put_35 : decode cX4_put 35 = .ok (.iconst 1, 1) := by decide +kernel
theorem dX4_put_36 : decode cX4_put 36 = .ok (.iadd, 1) := by decide +kernel
theorem dX4_put_37 : decode cX4_put 37 = .ok (.putfield 47, 3) := by decide +kernel
theorem dX4_put_40 : decode cX4_put 40 = .ok (.aload_n 0, 1) := by decide +kernel
theorem dX4_put_41 : decode cX4_put 41 = .ok (.dup, 1) := by decide +kernel
theorem dX4_put_42 : decode cX4_put 42 = .ok (.getfield 50, 3) := by decide +kernel
theorem dX4_put_45 : decode cX4_put 45 = .ok (.aload_n 0, 1) := by decide +kernel
theorem dX4_put_46 : decode cX4_put 46 = .ok (.getfield 18, 3) := by decide +kernel
theorem dX4_put_49 : decode cX4_put 49 = .ok (.iload_n 1, 1) := by decide +kernel
theorem dX4_put_50 : decode cX4_put 50 = .ok (.baload, 1) := by decide +kernel
theorem dX4_put_51 : decode cX4_put 51 = .ok (.ifCond .eq 7, 3) := by decide +kernel
theorem dX4_put_54 : decode cX4_put 54 = .ok (.iconst 1, 1) := by decide +kernel
theorem dX4_put_55 : decode cX4_put 55 = .ok (.goto 4, 3) := by decide +kernel
theorem dX4_put_58 : decode cX4_put 58 = .ok (.iconst 0, 1) := by decide +kernel
theorem dX4_put_59 : decode cX4_put 59 = .ok (.iadd, 1) := by decide +kernel
theorem dX4_put_60 : decode cX4_put 60 = .ok (.putfield 50, 3) := by decide +kernel
theorem dX4_put_63 : decode cX4_put 63 = .ok (.aload_n 0, 1) := by decide +kernel
theorem dX4_put_64 : decode cX4_put 64 = .ok (.dup, 1) := by decide +kernel
theorem dX4_put_65 : decode cX4_put 65 = .ok (.getfield 56, 3) := by decide +kernel
theorem dX4_put_68 : decode cX4_put 68 = .ok (.aload_n 0, 1) := by decide +kernel
theorem dX4_put_69 : decode cX4_put 69 = .ok (.iload_n 1, 1) := by decide +kernel
theorem dX4_put_70 : decode cX4_put 70 = .ok (.iload_n 2, 1) := by decide +kernel
theorem dX4_put_71 : decode cX4_put 71 = .ok (.invokevirtual 75, 3) := by decide +kernel
theorem dX4_put_74 : decode cX4_put 74 = .ok (.iadd, 1) := by decide +kernel
theorem dX4_put_75 : decode cX4_put 75 = .ok (.putfield 56, 3) := by decide +kernel
theorem dX4_put_78 : decode cX4_put 78 = .ok (.return_, 1) := by decide +kernel
noncomputable def tX4_put_38 : qT (Unit × qM) :=
  o2 (· + ·) (oPi 58 14 (oLa 0 (oDup (oGi 58 16 (oLa 0 (oLi 1 (oLi 2 (oCi GX4_pointsIn 3 (o2 (· + ·) (oPi 58 16 (eV)))))))))))
noncomputable def wX4_put_38 (k : Int32 → Int32 → Int32 → Int32 → qM → Option (Unit × qM)) : qT (Unit × qM) := fun lo st m => match lo, st with
  | [some (.ref 58), some (.int a1), some (.int a2)], [.int s0, .int s1, .ref 58] => k a1 a2 s0 s1 m
  | _, _ => none
set_option maxRecDepth 20000 in
theorem sX4_put_38 {C : qCx} {w : qWp} (h : qOk C w RX4 cX4_put 3 3 155 155) (hm : qMt C none) (hx : qNx C) : qSnd C w 3 155 (qQf C w 155 155 jV) qfin 155 59 (tX4_put_38) :=
  aAdd (pc := 59) h dX4_put_59 (gPi (pc := 60) h dX4_put_60 ff_X4_50_58 (Or.inl rfl) (Nat.le_of_ble_eq_true rfl) (Nat.le_of_ble_eq_true rfl) (cLa (pc := 63) h dX4_put_63 rfl (aDup (pc := 64) h dX4_put_64 (gGi (pc := 65) h dX4_put_65 ff_X4_56_58 (Nat.le_of_ble_eq_true rfl) (Nat.le_of_ble_eq_true rfl) (cLa (pc := 68) h dX4_put_68 rfl (cLi (pc := 69) h dX4_put_69 rfl (cLi (pc := 70) h dX4_put_70 rfl (kCi (pc := 71) h (kd_X4_75 h dX4_put_71) spX4_pointsIn (by decide) (by decide) (by decide) (by decide) (aAdd (pc := 74) h dX4_put_74 (gPi (pc := 75) h dX4_put_75 ff_X4_56_58 (Or.inl rfl) (Nat.le_of_ble_eq_true rfl) (Nat.le_of_ble_eq_true rfl) (zV (pc := 78) h hm (Nat.le_refl _) dX4_put_78)))))))))))
set_option maxRecDepth 20000 in
theorem lX4_put_38 (a1 : Int32) (a2 : Int32) (s0 : Int32) (s1 : Int32) (m : qM) : tX4_put_38 [some (.ref 58), some (.int a1), some (.int a2)] [(.int s0), (.int s1), (.ref 58)] m = fX4_put_38 a1 a2 s0 s1 m := rfl
theorem bX4_put_38 {C : qCx} {w : qWp} (h : qOk C w RX4 cX4_put 3 3 155 155) (hm : qMt C none) (hx : qNx C) : qSnd C w 3 155 (qQf C w 155 155 jV) qfin 155 59 (wX4_put_38 fX4_put_38) :=
  qSnd_of (fun lo st m x hr0 => by
    unfold wX4_put_38 at hr0
    split at hr0
    · exact ⟨_, (qsub_e (qsub_e (qsub_e qsub_nil))), (lX4_put_38 _ _ _ _ _).trans hr0⟩
    · cases hr0) (sX4_put_38 h hm hx)
noncomputable def tX4_put_0 (j38 : qT (Unit × qM)) : qT (Unit × qM) :=
  oLa 0 (oLi 1 (oLi 2 (oCv GX4_mark 3 (oLa 0 (oGf 58 5 62 (oLi 1 (oLi 2 (oWi 62 40 (oLa 0 (oGf 58 7 64 (oLa 0 (oGf 58 3 60 (oLi 1 (oAi 60 40 (oC (.int (20 : Int32)) (o2 (· * ·) (oLi 2 (o2 (· + ·) (oLi 1 (oWi 64 200 (oLa 0 (oDup (oGi 58 13 (oC (.int (1 : Int32)) (o2 (· + ·) (oPi 58 13 (oLa 0 (oDup (oGi 58 14 (oLa 0 (oGf 58 4 61 (oLi 1 (oAi 61 40 (oEq (oC (.int (0 : Int32)) (j38)) (oC (.int (1 : Int32)) (j38))))))))))))))))))))))))))))))))))))
set_option maxRecDepth 20000 in
theorem sX4_put_0 {C : qCx} {w : qWp} (h : qOk C w RX4 cX4_put 3 3 155 155) (hm : qMt C none) (hx : qNx C) {j38 : qT (Unit × qM)} (k38 : qSnd C w 3 155 (qQf C w 155 155 jV) qfin 155 59 j38) : qSnd C w 3 155 (qQf C w 155 155 jV) qfin 155 0 (tX4_put_0 j38) :=
  cLa (pc := 0) h dX4_put_0 rfl (cLi (pc := 1) h dX4_put_1 rfl (cLi (pc := 2) h dX4_put_2 rfl (kCv (pc := 3) h (kd_X4_71 h dX4_put_3) spX4_mark (by decide) (by decide) (by decide) (by decide) (cLa (pc := 6) h dX4_put_6 rfl (gGf (pc := 7) h dX4_put_7 ff_X4_22_58 (Nat.le_of_ble_eq_true rfl) (Nat.le_of_ble_eq_true rfl) rfl (cLi (pc := 10) h dX4_put_10 rfl (cLi (pc := 11) h dX4_put_11 rfl (rWi (pc := 12) h dX4_put_12 rfl (Nat.le_of_ble_eq_true rfl) (Nat.le_of_ble_eq_true rfl) (cLa (pc := 13) h dX4_put_13 rfl (gGf (pc := 14) h dX4_put_14 ff_X4_28_58 (Nat.le_of_ble_eq_true rfl) (Nat.le_of_ble_eq_true rfl) rfl (cLa (pc := 17) h dX4_put_17 rfl (gGf (pc := 18) h dX4_put_18 ff_X4_15_58 (Nat.le_of_ble_eq_true rfl) (Nat.le_of_ble_eq_true rfl) rfl (cLi (pc := 21) h dX4_put_21 rfl (rAi (pc := 22) h dX4_put_22 rfl (Nat.le_of_ble_eq_true rfl) (Nat.le_of_ble_eq_true rfl) (cB (pc := 23) h dX4_put_23 rfl (aMul (pc := 25) h dX4_put_25 (cLi (pc := 26) h dX4_put_26 rfl (aAdd (pc := 27) h dX4_put_27 (cLi (pc := 28) h dX4_put_28 rfl (rWi (pc := 29) h dX4_put_29 rfl (Nat.le_of_ble_eq_true rfl) (Nat.le_of_ble_eq_true rfl) (cLa (pc := 30) h dX4_put_30 rfl (aDup (pc := 31) h dX4_put_31 (gGi (pc := 32) h dX4_put_32 ff_X4_47_58 (Nat.le_of_ble_eq_true rfl) (Nat.le_of_ble_eq_true rfl) (cC (pc := 35) h dX4_put_35 rfl (aAdd (pc := 36) h dX4_put_36 (gPi (pc := 37) h dX4_put_37 ff_X4_47_58 (Or.inl rfl) (Nat.le_of_ble_eq_true rfl) (Nat.le_of_ble_eq_true rfl) (cLa (pc := 40) h dX4_put_40 rfl (aDup (pc := 41) h dX4_put_41 (gGi (pc := 42) h dX4_put_42 ff_X4_50_58 (Nat.le_of_ble_eq_true rfl) (Nat.le_of_ble_eq_true rfl) (cLa (pc := 45) h dX4_put_45 rfl (gGf (pc := 46) h dX4_put_46 ff_X4_18_58 (Nat.le_of_ble_eq_true rfl) (Nat.le_of_ble_eq_true rfl) rfl (cLi (pc := 49) h dX4_put_49 rfl (rAz (pc := 50) h dX4_put_50 rfl (Nat.le_of_ble_eq_true rfl) (Nat.le_of_ble_eq_true rfl) (jEq (pc := 51) h dX4_put_51 rfl (cC (pc := 58) h dX4_put_58 rfl (k38)) (cC (pc := 54) h dX4_put_54 rfl (jGo (pc := 55) h dX4_put_55 rfl (k38)))))))))))))))))))))))))))))))))))))
set_option maxRecDepth 20000 in
theorem lX4_put_0 (a1 : Int32) (a2 : Int32) (m : qM) : tX4_put_0 (wX4_put_38 fX4_put_38) [some (.ref 58), some (.int a1), some (.int a2)] [] m = fX4_put_0 a1 a2 m := rfl
noncomputable def GX4_put : qG Unit := fun av m => match av with
  | [.ref 58, .int a1, .int a2] => fX4_put a1 a2 m
  | _ => none
theorem spX4_put : qSpV yX4_put (.code yX4_put cX4_put 3 none) 3 qfin 155 155 1 GX4_put := by
  intro av m m' hG
  unfold GX4_put at hG
  split at hG
  · rename_i a1 a2
    rw [fX4_put_d] at hG
    exact ⟨qmeet (J := jV) (r := ((), m')) (av := [.ref 58, .int a1, .int a2]) (by decide +kernel) (Nat.le_of_ble_eq_true rfl) (fun C w h hm hx hn => sX4_put_0 h hm hx (bX4_put_38 h hm hx)) ((lX4_put_0 _ _ _).trans hG) (Nat.le_of_ble_eq_true rfl), Or.inl ⟨58, _, 4, _, _, rfl, by decide, rfl, qCk_4, rfl⟩⟩
  · cases hG
theorem im_X4_openSlots : Jvm.Cond.instanceMethod yX4_openSlots ∈ qTw := qm4 (List.mem_of_getElem? (i := 59) (by decide +kernel)) (by decide +kernel)
theorem se_X4_openSlots : Jvm.Cond.selects yX4_openSlots.cls yX4_openSlots yX4_openSlots ∈ qTw := qm4 (List.mem_of_getElem? (i := 60) (by decide +kernel)) (by decide +kernel)
theorem co_X4_openSlots : Jvm.Cond.code yX4_openSlots cX4_openSlots 5 (some .int) ∈ qTw := qm4 (List.mem_of_getElem? (i := 61) (by decide +kernel)) (by decide +kernel)
theorem yk_X4_openSlots : qYk yX4_openSlots 1 := ⟨⟨by decide +kernel, by decide +kernel⟩, by decide +kernel⟩
theorem ml_X0_92 : Jvm.Cond.methodLink RX0 92 yX4_openSlots ∈ qTw := qm4 (List.mem_of_getElem? (i := 169) (by decide +kernel)) (by decide +kernel)
theorem kd_X0_92 {C : qCx} {w : qWp} {cc : ByteArray} {nL dp n0 n1 pc : Nat} (h : qOk C w RX0 cc nL dp n0 n1) (d : decode cc pc = .ok (.invokevirtual 92, 3)) : qCallOk C w nL dp n0 n1 pc 2 1 yX4_openSlots (.code yX4_openSlots cX4_openSlots 5 (some .int)) := kindV h d ml_X0_92 im_X4_openSlots se_X4_openSlots in_ParentEve_Plan co_X4_openSlots yk_X4_openSlots (by decide)
theorem im_X4_familyOf : Jvm.Cond.instanceMethod yX4_familyOf ∈ qTw := qm4 (List.mem_of_getElem? (i := 160) (by decide +kernel)) (by decide +kernel)
theorem se_X4_familyOf : Jvm.Cond.selects yX4_familyOf.cls yX4_familyOf yX4_familyOf ∈ qTw := qm4 (List.mem_of_getElem? (i := 161) (by decide +kernel)) (by decide +kernel)
theorem co_X4_familyOf : Jvm.Cond.code yX4_familyOf cX4_familyOf 2 (some .int) ∈ qTw := qm4 (List.mem_of_getElem? (i := 162) (by decide +kernel)) (by decide +kernel)
theorem yk_X4_familyOf : qYk yX4_familyOf 1 := ⟨⟨by decide +kernel, by decide +kernel⟩, by decide +kernel⟩
theorem ml_X0_76 : Jvm.Cond.methodLink RX0 76 yX4_familyOf ∈ qTw := qm4 (List.mem_of_getElem? (i := 159) (by decide +kernel)) (by decide +kernel)
theorem kd_X0_76 {C : qCx} {w : qWp} {cc : ByteArray} {nL dp n0 n1 pc : Nat} (h : qOk C w RX0 cc nL dp n0 n1) (d : decode cc pc = .ok (.invokevirtual 76, 3)) : qCallOk C w nL dp n0 n1 pc 2 1 yX4_familyOf (.code yX4_familyOf cX4_familyOf 2 (some .int)) := kindV h d ml_X0_76 im_X4_familyOf se_X4_familyOf in_ParentEve_Plan co_X4_familyOf yk_X4_familyOf (by decide)
theorem ml_X0_95 : Jvm.Cond.methodLink RX0 95 yX3_wishOf ∈ qTw := qm4 (List.mem_of_getElem? (i := 170) (by decide +kernel)) (by decide +kernel)
theorem kd_X0_95 {C : qCx} {w : qWp} {cc : ByteArray} {nL dp n0 n1 pc : Nat} (h : qOk C w RX0 cc nL dp n0 n1) (d : decode cc pc = .ok (.invokevirtual 95, 3)) : qCallOk C w nL dp n0 n1 pc 2 1 yX3_wishOf (.code yX3_wishOf cX3_wishOf 2 (some .int)) := kindV h d ml_X0_95 im_X3_wishOf se_X3_wishOf in_ParentEve_People co_X3_wishOf yk_X3_wishOf (by decide)
theorem im_X11_leastOf : Jvm.Cond.static yX11_leastOf ∈ qTw := qm4 (List.mem_of_getElem? (i := 172) (by decide +kernel)) (by decide +kernel)
theorem co_X11_leastOf : Jvm.Cond.code yX11_leastOf cX11_leastOf 1 (some .int) ∈ qTw := qm4 (List.mem_of_getElem? (i := 173) (by decide +kernel)) (by decide +kernel)
theorem yk_X11_leastOf : qYk yX11_leastOf 1 := ⟨⟨by decide +kernel, by decide +kernel⟩, by decide +kernel⟩
theorem ml_X0_98 : Jvm.Cond.methodLinkNest RX0 98 yX11_leastOf "ParentEve" ∈ qTw := qm4 (List.mem_of_getElem? (i := 171) (by decide +kernel)) (by decide +kernel)
theorem kd_X0_98 {C : qCx} {w : qWp} {cc : ByteArray} {nL dp n0 n1 pc : Nat} (h : qOk C w RX0 cc nL dp n0 n1) (d : decode cc pc = .ok (.invokestatic 98, 3)) : qCallOk C w nL dp n0 n1 pc 1 0 yX11_leastOf (.code yX11_leastOf cX11_leastOf 1 (some .int)) := kindSN h d ml_X0_98 im_X11_leastOf in_ParentEve co_X11_leastOf yk_X11_leastOf (by decide)
theorem im_X4_put : Jvm.Cond.instanceMethod yX4_put ∈ qTw := qm4 (List.mem_of_getElem? (i := 105) (by decide +kernel)) (by decide +kernel)
theorem se_X4_put : Jvm.Cond.selects yX4_put.cls yX4_put yX4_put ∈ qTw := qm4 (List.mem_of_getElem? (i := 106) (by decide +kernel)) (by decide +kernel)
theorem co_X4_put : Jvm.Cond.code yX4_put cX4_put 3 none ∈ qTw := qm4 (List.mem_of_getElem? (i := 107) (by decide +kernel)) (by decide +kernel)
theorem yk_X4_put : qYk yX4_put 2 := ⟨⟨by decide +kernel, by decide +kernel⟩, by decide +kernel⟩
theorem ml_X0_101 : Jvm.Cond.methodLink RX0 101 yX4_put ∈ qTw := qm4 (List.mem_of_getElem? (i := 174) (by decide +kernel)) (by decide +kernel)
theorem kd_X0_101 {C : qCx} {w : qWp} {cc : ByteArray} {nL dp n0 n1 pc : Nat} (h : qOk C w RX0 cc nL dp n0 n1) (d : decode cc pc = .ok (.invokevirtual 101, 3)) : qCallOk C w nL dp n0 n1 pc 3 1 yX4_put (.code yX4_put cX4_put 3 none) := kindV h d ml_X0_101 im_X4_put se_X4_put in_ParentEve_Plan co_X4_put yk_X4_put (by decide)
theorem dX0_layFirst_0 : decode cX0_layFirst 0 = .ok (.aload_n 0, 1) := by decide +kernel
theorem dX0_layFirst_1 : decode cX0_layFirst 1 = .ok (.getfield 55, 3) := by decide +kernel
theorem dX0_layFirst_4 : decode cX0_layFirst 4 = .ok (.iload_n 1, 1) := by decide +kernel
theorem dX0_layFirst_5 : decode cX0_layFirst 5 = .ok (.invokevirtual 92, 3) := by decide +kernel
theorem dX0_layFirst_8 : decode cX0_layFirst 8 = .ok (.istore_n 2, 1) := by decide +kernel
theorem dX0_layFirst_9 : decode cX0_layFirst 9 = .ok (.iload_n 2, 1) := by decide +kernel
theorem dX0_layFirst_10 : decode cX0_layFirst 10 = .ok (.aload_n 0, 1) := by decide +kernel
theorem dX0_layFirst_11 : decode cX0_layFirst 11 = .ok (.getfield 51, 3) := by decide +kernel
theorem dX0_layFirst_14 : decode cX0_layFirst 14 = .ok (.aload_n 0, 1) := by decide +kernel
theorem dX0_layFirst_15 : decode cX0_layFirst 15 = .ok (.getfield 55, 3) := by decide +kernel
theorem dX0_layFirst_18 : decode cX0_layFirst 18 = .ok (.iload_n 1, 1) := by decide +kernel
theorem dX0_layFirst_19 : decode cX0_layFirst 19 = .ok (.invokevirtual 76, 3) := by decide +kernel
theorem dX0_layFirst_22 : decode cX0_layFirst 22 = .ok (.invokevirtual 95, 3) := by decide +kernel
theorem dX0_layFirst_25 : decode cX0_layFirst 25 = .ok (.iand, 1) := by decide +kernel
theorem dX0_layFirst_26 : decode cX0_layFirst 26 = .ok (.istore_n 3, 1) := by decide +kernel
theorem dX0_layFirst_27 : decode cX0_layFirst 27 = .ok (.iload_n 2, 1) := by decide +kernel
theorem dX0_layFirst_28 : decode cX0_layFirst 28 = .ok (.ifCond .eq 23, 3) := by decide +kernel
theorem dX0_layFirst_31 : decode cX0_layFirst 31 = .ok (.aload_n 0, 1) := by decide +kernel
theorem dX0_layFirst_32 : decode cX0_layFirst 32 = .ok (.getfield 55, 3) := by decide +kernel
theorem dX0_layFirst_35 : decode cX0_layFirst 35 = .ok (.iload_n 1, 1) := by decide +kernel
theorem dX0_layFirst_36 : decode cX0_layFirst 36 = .ok (.iload_n 3, 1) := by decide +kernel
theorem dX0_layFirst_37 : decode cX0_layFirst 37 = .ok (.ifCond .eq 7, 3) := by decide +kernel
theorem dX0_layFirst_40 : decode cX0_layFirst 40 = .ok (.iload_n 3, 1) := by decide +kernel
theorem dX0_layFirst_41 : decode cX0_layFirst 41 = .ok (.goto 4, 3) := by decide +kernel
theorem dX0_layFirst_44 : decode cX0_layFirst 44 = .ok (.iload_n 2, 1) := by decide +kernel
theorem dX0_layFirst_45 : decode cX0_layFirst 45 = .ok (.invokestatic 98, 3) := by decide +kernel
theorem dX0_layFirst_48 : decode cX0_layFirst 48 = .ok (.invokevirtual 101, 3) := by decide +kernel
theorem dX0_layFirst_51 : decode cX0_layFirst 51 = .ok (.return_, 1) := by decide +kernel
noncomputable def tX0_layFirst_27 : qT (Unit × qM) :=
  eV
noncomputable def wX0_layFirst_27 (k : qM → Option (Unit × qM)) : qT (Unit × qM) := fun lo st m => match lo, st with
  | [_, _, _, _], [] => k m
  | _, _ => none
set_option maxRecDepth 20000 in
theorem sX0_layFirst_27 {C : qCx} {w : qWp} (h : qOk C w RX0 cX0_layFirst 4 4 155 155) (hm : qMt C none) (hx : qNx C) : qSnd C w 4 155 (qQf C w 155 155 jV) qfin 155 51 (tX0_layFirst_27) :=
  zV (pc := 51) h hm (Nat.le_refl _) dX0_layFirst_51
set_option maxRecDepth 20000 in
theorem lX0_layFirst_27 (m : qM) : tX0_layFirst_27 [none, none, none, none] [] m = fX0_layFirst_27 m := rfl
theorem bX0_layFirst_27 {C : qCx} {w : qWp} (h : qOk C w RX0 cX0_layFirst 4 4 155 155) (hm : qMt C none) (hx : qNx C) : qSnd C w 4 155 (qQf C w 155 155 jV) qfin 155 51 (wX0_layFirst_27 fX0_layFirst_27) :=
  qSnd_of (fun lo st m x hr0 => by
    unfold wX0_layFirst_27 at hr0
    split at hr0
    · exact ⟨_, (qsub_n (qsub_n (qsub_n (qsub_n qsub_nil)))), (lX0_layFirst_27 _).trans hr0⟩
    · cases hr0) (sX0_layFirst_27 h hm hx)
noncomputable def tX0_layFirst_25 (j27 : qT (Unit × qM)) : qT (Unit × qM) :=
  oCi GX11_leastOf 1 (oCv GX4_put 3 (j27))
noncomputable def wX0_layFirst_25 (k : Int32 → Int32 → qM → Option (Unit × qM)) : qT (Unit × qM) := fun lo st m => match lo, st with
  | [_, _, _, _], [.int s0, .int s1, .ref 58] => k s0 s1 m
  | _, _ => none
set_option maxRecDepth 20000 in
theorem sX0_layFirst_25 {C : qCx} {w : qWp} (h : qOk C w RX0 cX0_layFirst 4 4 155 155) (hm : qMt C none) (hx : qNx C) {j27 : qT (Unit × qM)} (k27 : qSnd C w 4 155 (qQf C w 155 155 jV) qfin 155 51 j27) : qSnd C w 4 155 (qQf C w 155 155 jV) qfin 155 45 (tX0_layFirst_25 j27) :=
  kCi (pc := 45) h (kd_X0_98 h dX0_layFirst_45) spX11_leastOf (by decide) (by decide) (by decide) (by decide) (kCv (pc := 48) h (kd_X0_101 h dX0_layFirst_48) spX4_put (by decide) (by decide) (by decide) (by decide) (k27))
set_option maxRecDepth 20000 in
theorem lX0_layFirst_25 (s0 : Int32) (s1 : Int32) (m : qM) : tX0_layFirst_25 (wX0_layFirst_27 fX0_layFirst_27) [none, none, none, none] [(.int s0), (.int s1), (.ref 58)] m = fX0_layFirst_25 s0 s1 m := rfl
theorem bX0_layFirst_25 {C : qCx} {w : qWp} (h : qOk C w RX0 cX0_layFirst 4 4 155 155) (hm : qMt C none) (hx : qNx C) : qSnd C w 4 155 (qQf C w 155 155 jV) qfin 155 45 (wX0_layFirst_25 fX0_layFirst_25) :=
  qSnd_of (fun lo st m x hr0 => by
    unfold wX0_layFirst_25 at hr0
    split at hr0
    · exact ⟨_, (qsub_n (qsub_n (qsub_n (qsub_n qsub_nil)))), (lX0_layFirst_25 _ _ _).trans hr0⟩
    · cases hr0) (sX0_layFirst_25 h hm hx (bX0_layFirst_27 h hm hx))
noncomputable def tX0_layFirst_0 (j27 : qT (Unit × qM)) (j25 : qT (Unit × qM)) : qT (Unit × qM) :=
  oLa 0 (oGf 68 1 58 (oLi 1 (oCi GX4_openSlots 2 (oSi 2 (oLi 2 (oLa 0 (oGf 68 0 47 (oLa 0 (oGf 68 1 58 (oLi 1 (oCi GX4_familyOf 2 (oCi GX3_wishOf 2 (o2 (· &&& ·) (oSi 3 (oLi 2 (oEq (j27) (oLa 0 (oGf 68 1 58 (oLi 1 (oLi 3 (oEq (oLi 2 (j25)) (oLi 3 (j25)))))))))))))))))))))))
set_option maxRecDepth 20000 in
theorem sX0_layFirst_0 {C : qCx} {w : qWp} (h : qOk C w RX0 cX0_layFirst 4 4 155 155) (hm : qMt C none) (hx : qNx C) {j27 : qT (Unit × qM)} {j25 : qT (Unit × qM)} (k27 : qSnd C w 4 155 (qQf C w 155 155 jV) qfin 155 51 j27) (k25 : qSnd C w 4 155 (qQf C w 155 155 jV) qfin 155 45 j25) : qSnd C w 4 155 (qQf C w 155 155 jV) qfin 155 0 (tX0_layFirst_0 j27 j25) :=
  cLa (pc := 0) h dX0_layFirst_0 rfl (gGf (pc := 1) h dX0_layFirst_1 ff_X0_55_68 (Nat.le_of_ble_eq_true rfl) (Nat.le_of_ble_eq_true rfl) rfl (cLi (pc := 4) h dX0_layFirst_4 rfl (kCi (pc := 5) h (kd_X0_92 h dX0_layFirst_5) spX4_openSlots (by decide) (by decide) (by decide) (by decide) (cSi (pc := 8) h dX0_layFirst_8 rfl (cLi (pc := 9) h dX0_layFirst_9 rfl (cLa (pc := 10) h dX0_layFirst_10 rfl (gGf (pc := 11) h dX0_layFirst_11 ff_X0_51_68 (Nat.le_of_ble_eq_true rfl) (Nat.le_of_ble_eq_true rfl) rfl (cLa (pc := 14) h dX0_layFirst_14 rfl (gGf (pc := 15) h dX0_layFirst_15 ff_X0_55_68 (Nat.le_of_ble_eq_true rfl) (Nat.le_of_ble_eq_true rfl) rfl (cLi (pc := 18) h dX0_layFirst_18 rfl (kCi (pc := 19) h (kd_X0_76 h dX0_layFirst_19) spX4_familyOf (by decide) (by decide) (by decide) (by decide) (kCi (pc := 22) h (kd_X0_95 h dX0_layFirst_22) spX3_wishOf (by decide) (by decide) (by decide) (by decide) (aAnd (pc := 25) h dX0_layFirst_25 (cSi (pc := 26) h dX0_layFirst_26 rfl (cLi (pc := 27) h dX0_layFirst_27 rfl (jEq (pc := 28) h dX0_layFirst_28 rfl (k27) (cLa (pc := 31) h dX0_layFirst_31 rfl (gGf (pc := 32) h dX0_layFirst_32 ff_X0_55_68 (Nat.le_of_ble_eq_true rfl) (Nat.le_of_ble_eq_true rfl) rfl (cLi (pc := 35) h dX0_layFirst_35 rfl (cLi (pc := 36) h dX0_layFirst_36 rfl (jEq (pc := 37) h dX0_layFirst_37 rfl (cLi (pc := 44) h dX0_layFirst_44 rfl (k25)) (cLi (pc := 40) h dX0_layFirst_40 rfl (jGo (pc := 41) h dX0_layFirst_41 rfl (k25))))))))))))))))))))))))
set_option maxRecDepth 20000 in
theorem lX0_layFirst_0 (a1 : Int32) (m : qM) : tX0_layFirst_0 (wX0_layFirst_27 fX0_layFirst_27) (wX0_layFirst_25 fX0_layFirst_25) [some (.ref 68), some (.int a1), none, none] [] m = fX0_layFirst_0 a1 m := rfl
noncomputable def GX0_layFirst : qG Unit := fun av m => match av with
  | [.ref 68, .int a1] => fX0_layFirst a1 m
  | _ => none
theorem spX0_layFirst : qSpV yX0_layFirst (.code yX0_layFirst cX0_layFirst 4 none) 4 qfin 155 155 1 GX0_layFirst := by
  intro av m m' hG
  unfold GX0_layFirst at hG
  split at hG
  · rename_i a1
    rw [fX0_layFirst_d] at hG
    exact ⟨qmeet (J := jV) (r := ((), m')) (av := [.ref 68, .int a1]) (by decide +kernel) (Nat.le_of_ble_eq_true rfl) (fun C w h hm hx hn => sX0_layFirst_0 h hm hx (bX0_layFirst_27 h hm hx) (bX0_layFirst_25 h hm hx)) ((lX0_layFirst_0 _ _).trans hG) (Nat.le_of_ble_eq_true rfl), Or.inl ⟨68, _, 0, _, _, rfl, by decide, rfl, qCk_0, rfl⟩⟩
  · cases hG
theorem im_X4_asks : Jvm.Cond.instanceMethod yX4_asks ∈ qTw := qm4 (List.mem_of_getElem? (i := 39) (by decide +kernel)) (by decide +kernel)
theorem se_X4_asks : Jvm.Cond.selects yX4_asks.cls yX4_asks yX4_asks ∈ qTw := qm4 (List.mem_of_getElem? (i := 40) (by decide +kernel)) (by decide +kernel)
theorem co_X4_asks : Jvm.Cond.code yX4_asks cX4_asks 1 (some .int) ∈ qTw := qm4 (List.mem_of_getElem? (i := 41) (by decide +kernel)) (by decide +kernel)
theorem yk_X4_asks : qYk yX4_asks 0 := ⟨⟨by decide +kernel, by decide +kernel⟩, by decide +kernel⟩
theorem ml_X0_69 : Jvm.Cond.methodLink RX0 69 yX4_asks ∈ qTw := qm4 (List.mem_of_getElem? (i := 154) (by decide +kernel)) (by decide +kernel)
theorem kd_X0_69 {C : qCx} {w : qWp} {cc : ByteArray} {nL dp n0 n1 pc : Nat} (h : qOk C w RX0 cc nL dp n0 n1) (d : decode cc pc = .ok (.invokevirtual 69, 3)) : qCallOk C w nL dp n0 n1 pc 1 1 yX4_asks (.code yX4_asks cX4_asks 1 (some .int)) := kindV h d ml_X0_69 im_X4_asks se_X4_asks in_ParentEve_Plan co_X4_asks yk_X4_asks (by decide)
theorem im_X4_isMust : Jvm.Cond.instanceMethod yX4_isMust ∈ qTw := qm4 (List.mem_of_getElem? (i := 156) (by decide +kernel)) (by decide +kernel)
theorem se_X4_isMust : Jvm.Cond.selects yX4_isMust.cls yX4_isMust yX4_isMust ∈ qTw := qm4 (List.mem_of_getElem? (i := 157) (by decide +kernel)) (by decide +kernel)
theorem co_X4_isMust : Jvm.Cond.code yX4_isMust cX4_isMust 2 (some .boolean) ∈ qTw := qm4 (List.mem_of_getElem? (i := 158) (by decide +kernel)) (by decide +kernel)
theorem yk_X4_isMust : qYk yX4_isMust 1 := ⟨⟨by decide +kernel, by decide +kernel⟩, by decide +kernel⟩
theorem ml_X0_72 : Jvm.Cond.methodLink RX0 72 yX4_isMust ∈ qTw := qm4 (List.mem_of_getElem? (i := 155) (by decide +kernel)) (by decide +kernel)
theorem kd_X0_72 {C : qCx} {w : qWp} {cc : ByteArray} {nL dp n0 n1 pc : Nat} (h : qOk C w RX0 cc nL dp n0 n1) (d : decode cc pc = .ok (.invokevirtual 72, 3)) : qCallOk C w nL dp n0 n1 pc 2 1 yX4_isMust (.code yX4_isMust cX4_isMust 2 (some .boolean)) := kindV h d ml_X0_72 im_X4_isMust se_X4_isMust in_ParentEve_Plan co_X4_isMust yk_X4_isMust (by decide)
theorem ml_X0_80 : Jvm.Cond.methodLink RX0 80 yX3_yearsOf ∈ qTw := qm4 (List.mem_of_getElem? (i := 163) (by decide +kernel)) (by decide +kernel)
theorem kd_X0_80 {C : qCx} {w : qWp} {cc : ByteArray} {nL dp n0 n1 pc : Nat} (h : qOk C w RX0 cc nL dp n0 n1) (d : decode cc pc = .ok (.invokevirtual 80, 3)) : qCallOk C w nL dp n0 n1 pc 2 1 yX3_yearsOf (.code yX3_yearsOf cX3_yearsOf 2 (some .int)) := kindV h d ml_X0_80 im_X3_yearsOf se_X3_yearsOf in_ParentEve_People co_X3_yearsOf yk_X3_yearsOf (by decide)
theorem ml_X0_85 : Jvm.Cond.methodLink RX0 85 yX4_isLaid ∈ qTw := qm4 (List.mem_of_getElem? (i := 164) (by decide +kernel)) (by decide +kernel)
theorem kd_X0_85 {C : qCx} {w : qWp} {cc : ByteArray} {nL dp n0 n1 pc : Nat} (h : qOk C w RX0 cc nL dp n0 n1) (d : decode cc pc = .ok (.invokevirtual 85, 3)) : qCallOk C w nL dp n0 n1 pc 2 1 yX4_isLaid (.code yX4_isLaid cX4_isLaid 2 (some .boolean)) := kindV h d ml_X0_85 im_X4_isLaid se_X4_isLaid in_ParentEve_Plan co_X4_isLaid yk_X4_isLaid (by decide)
theorem im_X0_layFirst : Jvm.Cond.instanceMethod yX0_layFirst ∈ qTw := qm4 (List.mem_of_getElem? (i := 167) (by decide +kernel)) (by decide +kernel)
theorem se_X0_layFirst : Jvm.Cond.selects yX0_layFirst.cls yX0_layFirst yX0_layFirst ∈ qTw := List.mem_filter.mpr ⟨List.mem_append_left _ (List.mem_of_getElem? (i := 11) (by decide +kernel)), rfl⟩
theorem co_X0_layFirst : Jvm.Cond.code yX0_layFirst cX0_layFirst 4 none ∈ qTw := qm4 (List.mem_of_getElem? (i := 168) (by decide +kernel)) (by decide +kernel)
theorem yk_X0_layFirst : qYk yX0_layFirst 1 := ⟨⟨by decide +kernel, by decide +kernel⟩, by decide +kernel⟩
theorem ml_X0_88 : Jvm.Cond.methodLink RX0 88 yX0_layFirst ∈ qTw := qm4 (List.mem_of_getElem? (i := 165) (by decide +kernel)) (by decide +kernel)
theorem kd_X0_88 {C : qCx} {w : qWp} {cc : ByteArray} {nL dp n0 n1 pc : Nat} (h : qOk C w RX0 cc nL dp n0 n1) (d : decode cc pc = .ok (.invokevirtual 88, 3)) : qCallOk C w nL dp n0 n1 pc 2 1 yX0_layFirst (.code yX0_layFirst cX0_layFirst 4 none) := kindV h d ml_X0_88 im_X0_layFirst se_X0_layFirst in_ParentEve_Chooser co_X0_layFirst yk_X0_layFirst (by decide)
theorem dX0_layThose_0 : decode cX0_layThose 0 = .ok (.bipush 9, 2) := by decide +kernel
theorem dX0_layThose_2 : decode cX0_layThose 2 = .ok (.istore_n 2, 1) := by decide +kernel
theorem dX0_layThose_3 : decode cX0_layThose 3 = .ok (.iload_n 2, 1) := by decide +kernel
theorem dX0_layThose_4 : decode cX0_layThose 4 = .ok (.ifCond .lt 87, 3) := by decide +kernel
theorem dX0_layThose_7 : decode cX0_layThose 7 = .ok (.iconst 0, 1) := by decide +kernel
theorem dX0_layThose_8 : decode cX0_layThose 8 = .ok (.istore_n 3, 1) := by decide +kernel
theorem dX0_layThose_9 : decode cX0_layThose 9 = .ok (.iload_n 3, 1) := by decide +kernel
theorem dX0_layThose_10 : decode cX0_layThose 10 = .ok (.aload_n 0, 1) := by decide +kernel
theorem dX0_layThose_11 : decode cX0_layThose 11 = .ok (.getfield 55, 3) := by decide +kernel
theorem dX0_layThose_14 : decode cX0_layThose 14 = .ok (.invokevirtual 69, 3) := by decide +kernel
theorem dX0_layThose_17 : decode cX0_layThose 17 = .ok (.if_icmp .ge 68, 3) := by decide +kernel
theorem dX0_layThose_20 : decode cX0_layThose 20 = .ok (.aload_n 0, 1) := by decide +kernel
theorem dX0_layThose_21 : decode cX0_layThose 21 = .ok (.getfield 55, 3) := by decide +kernel
theorem dX0_layThose_24 : decode cX0_layThose 24 = .ok (.iload_n 3, 1) := by decide +kernel
theorem dX0_layThose_25 : decode cX0_layThose 25 = .ok (.invokevirtual 72, 3) := by decide +kernel
theorem dX0_layThose_28 : decode cX0_layThose 28 = .ok (.iload_n 1, 1) := by decide +kernel
theorem dX0_layThose_29 : decode cX0_layThose 29 = .ok (.if_icmp .ne 26, 3) := by decide +kernel
theorem dX0_layThose_32 : decode cX0_layThose 32 = .ok (.aload_n 0, 1) := by decide +kernel
theorem dX0_layThose_33 : decode cX0_layThose 33 = .ok (.getfield 51, 3) := by decide +kernel
theorem dX0_layThose_36 : decode cX0_layThose 36 = .ok (.aload_n 0, 1) := by decide +kernel
theorem dX0_layThose_37 : decode cX0_layThose 37 = .ok (.getfield 55, 3) := by decide +kernel
theorem dX0_layThose_40 : decode cX0_layThose 40 = .ok (.iload_n 3, 1) := by decide +kernel
theorem dX0_layThose_41 : decode cX0_layThose 41 = .ok (.invokevirtual 76, 3) := by decide +kernel
theorem dX0_layThose_44 : decode cX0_layThose 44 = .ok (.invokevirtual 80, 3) := by decide +kernel
theorem dX0_layThose_47 : decode cX0_layThose 47 = .ok (.iload_n 2, 1) := by decide +kernel
theorem dX0_layThose_48 : decode cX0_layThose 48 = .ok (.if_icmp .ne 7, 3) := by decide +kernel
theorem dX0_layThose_51 : decode cX0_layThose 51 = .ok (.iconst 1, 1) := by decide +kernel
theorem dX0_layThose_52 : decode cX0_layThose 52 = .ok (.goto 4, 3) := by decide +kernel
theorem dX0_layThose_55 : decode cX0_layThose 55 = .ok (.iconst 0, 1) := by decide +kernel
theorem dX0_layThose_56 : decode cX0_layThose 56 = .ok (.istore 4, 2) := by decide +kernel
theorem dX0_layThose_58 : decode cX0_layThose 58 = .ok (.iload 4, 2) := by decide +kernel
theorem dX0_layThose_60 : decode cX0_layThose 60 = .ok (.ifCond .eq 19, 3) := by decide +kernel
theorem dX0_layThose_63 : decode cX0_layThose 63 = .ok (.aload_n 0, 1) := by decide +kernel
theorem dX0_layThose_64 : decode cX0_layThose 64 = .ok (.getfield 55, 3) := by decide +kernel
theorem dX0_layThose_67 : decode cX0_layThose 67 = .ok (.iload_n 3, 1) := by decide +kernel
theorem dX0_layThose_68 : decode cX0_layThose 68 = .ok (.invokevirtual 85, 3) := by decide +kernel
theorem dX0_layThose_71 : decode cX0_layThose 71 = .ok (.ifCond .ne 8, 3) := by decide +kernel
theorem dX0_layThose_74 : decode cX0_layThose 74 = .ok (.aload_n 0, 1) := by decide +kernel
theorem dX0_layThose_75 : decode cX0_layThose 75 = .ok (.iload_n 3, 1) := by decide +kernel
theorem dX0_layThose_76 : decode cX0_layThose 76 = .ok (.invokevirtual 88, 3) := by decide +kernel
theorem dX0_layThose_79 : decode cX0_layThose 79 = .ok (.iinc 3 1, 3) := by decide +kernel
theorem dX0_layThose_82 : decode cX0_layThose 82 = .ok (.goto (-73), 3) := by decide +kernel
theorem dX0_layThose_85 : decode cX0_layThose 85 = .ok (.iinc 2 (-1), 3) := by decide +kernel
theorem dX0_layThose_88 : decode cX0_layThose 88 = .ok (.goto (-85), 3) := by decide +kernel
theorem dX0_layThose_91 : decode cX0_layThose 91 = .ok (.return_, 1) := by decide +kernel
noncomputable def tX0_layThose_40 (j6 : qT (Unit × qM)) : qT (Unit × qM) :=
  oInc 3 (1 : Int32) (j6)
noncomputable def wX0_layThose_40 (k : Int32 → Int32 → Int32 → qM → Option (Unit × qM)) : qT (Unit × qM) := fun lo st m => match lo, st with
  | [some (.ref 68), some (.int a1), some (.int a2), some (.int a3), _], [] => k a1 a2 a3 m
  | _, _ => none
noncomputable def wX0_layThose_6 (k : Int32 → Int32 → Int32 → qM → Option (Unit × qM)) : qT (Unit × qM) := fun lo st m => match lo, st with
  | [some (.ref 68), some (.int a1), some (.int a2), some (.int a3), _], [] => k a1 a2 a3 m
  | _, _ => none
set_option maxRecDepth 20000 in
theorem sX0_layThose_40 {C : qCx} {w : qWp} (h : qOk C w RX0 cX0_layThose 5 5 155 155) (hm : qMt C none) (hx : qNx C) {j6 : qT (Unit × qM)} (k6 : qSnd C w 5 155 (qQf C w 155 155 jV) qfin 155 9 j6) : qSnd C w 5 155 (qQf C w 155 155 jV) qfin 155 79 (tX0_layThose_40 j6) :=
  cInc (pc := 79) h dX0_layThose_79 rfl (jGo (pc := 82) h dX0_layThose_82 rfl (k6))
set_option maxRecDepth 20000 in
theorem lX0_layThose_40 (k6 : Int32 → Int32 → Int32 → qM → Option (Unit × qM)) (a1 : Int32) (a2 : Int32) (a3 : Int32) (m : qM) : tX0_layThose_40 (wX0_layThose_6 k6) [some (.ref 68), some (.int a1), some (.int a2), some (.int a3), none] [] m = fX0_layThose_40 k6 a1 a2 a3 m := rfl
theorem bX0_layThose_40 {C : qCx} {w : qWp} (h : qOk C w RX0 cX0_layThose 5 5 155 155) (hm : qMt C none) (hx : qNx C) {k6 : Int32 → Int32 → Int32 → qM → Option (Unit × qM)} (h6 : qSnd C w 5 155 (qQf C w 155 155 jV) qfin 155 9 (wX0_layThose_6 k6)) : qSnd C w 5 155 (qQf C w 155 155 jV) qfin 155 79 (wX0_layThose_40 (fX0_layThose_40 k6)) :=
  qSnd_of (fun lo st m x hr0 => by
    unfold wX0_layThose_40 at hr0
    split at hr0
    · exact ⟨_, (qsub_e (qsub_e (qsub_e (qsub_e (qsub_n qsub_nil))))), (lX0_layThose_40 _ _ _ _ _).trans hr0⟩
    · cases hr0) (sX0_layThose_40 h hm hx h6)
noncomputable def tX0_layThose_29 (j40 : qT (Unit × qM)) : qT (Unit × qM) :=
  oSi 4 (oLi 4 (oEq (j40) (oLa 0 (oGf 68 1 58 (oLi 3 (oCi GX4_isLaid 2 (oEq (oLa 0 (oLi 3 (oCv GX0_layFirst 2 (j40)))) (j40))))))))
noncomputable def wX0_layThose_29 (k : Int32 → Int32 → Int32 → Int32 → qM → Option (Unit × qM)) : qT (Unit × qM) := fun lo st m => match lo, st with
  | [some (.ref 68), some (.int a1), some (.int a2), some (.int a3), _], [.int s0] => k a1 a2 a3 s0 m
  | _, _ => none
set_option maxRecDepth 20000 in
theorem sX0_layThose_29 {C : qCx} {w : qWp} (h : qOk C w RX0 cX0_layThose 5 5 155 155) (hm : qMt C none) (hx : qNx C) {j40 : qT (Unit × qM)} (k40 : qSnd C w 5 155 (qQf C w 155 155 jV) qfin 155 79 j40) : qSnd C w 5 155 (qQf C w 155 155 jV) qfin 155 56 (tX0_layThose_29 j40) :=
  cSI (pc := 56) h dX0_layThose_56 (cLI (pc := 58) h dX0_layThose_58 (jEq (pc := 60) h dX0_layThose_60 rfl (k40) (cLa (pc := 63) h dX0_layThose_63 rfl (gGf (pc := 64) h dX0_layThose_64 ff_X0_55_68 (Nat.le_of_ble_eq_true rfl) (Nat.le_of_ble_eq_true rfl) rfl (cLi (pc := 67) h dX0_layThose_67 rfl (kCi (pc := 68) h (kd_X0_85 h dX0_layThose_68) spX4_isLaid (by decide) (by decide) (by decide) (by decide) (jNe (pc := 71) h dX0_layThose_71 rfl (k40) (cLa (pc := 74) h dX0_layThose_74 rfl (cLi (pc := 75) h dX0_layThose_75 rfl (kCv (pc := 76) h (kd_X0_88 h dX0_layThose_76) spX0_layFirst (by decide) (by decide) (by decide) (by decide) (k40)))))))))))
set_option maxRecDepth 20000 in
theorem lX0_layThose_29 (k6 : Int32 → Int32 → Int32 → qM → Option (Unit × qM)) (a1 : Int32) (a2 : Int32) (a3 : Int32) (s0 : Int32) (m : qM) : tX0_layThose_29 (wX0_layThose_40 (fX0_layThose_40 k6)) [some (.ref 68), some (.int a1), some (.int a2), some (.int a3), none] [(.int s0)] m = fX0_layThose_29 k6 a1 a2 a3 s0 m := rfl
theorem bX0_layThose_29 {C : qCx} {w : qWp} (h : qOk C w RX0 cX0_layThose 5 5 155 155) (hm : qMt C none) (hx : qNx C) {k6 : Int32 → Int32 → Int32 → qM → Option (Unit × qM)} (h6 : qSnd C w 5 155 (qQf C w 155 155 jV) qfin 155 9 (wX0_layThose_6 k6)) : qSnd C w 5 155 (qQf C w 155 155 jV) qfin 155 56 (wX0_layThose_29 (fX0_layThose_29 k6)) :=
  qSnd_of (fun lo st m x hr0 => by
    unfold wX0_layThose_29 at hr0
    split at hr0
    · exact ⟨_, (qsub_e (qsub_e (qsub_e (qsub_e (qsub_n qsub_nil))))), (lX0_layThose_29 _ _ _ _ _ _).trans hr0⟩
    · cases hr0) (sX0_layThose_29 h hm hx (bX0_layThose_40 h hm hx h6))
noncomputable def tX0_layThose_28 (j29 : qT (Unit × qM)) : qT (Unit × qM) :=
  oC (.int (0 : Int32)) (j29)
noncomputable def wX0_layThose_28 (k : Int32 → Int32 → Int32 → qM → Option (Unit × qM)) : qT (Unit × qM) := fun lo st m => match lo, st with
  | [some (.ref 68), some (.int a1), some (.int a2), some (.int a3), _], [] => k a1 a2 a3 m
  | _, _ => none
set_option maxRecDepth 20000 in
theorem sX0_layThose_28 {C : qCx} {w : qWp} (h : qOk C w RX0 cX0_layThose 5 5 155 155) (hm : qMt C none) (hx : qNx C) {j29 : qT (Unit × qM)} (k29 : qSnd C w 5 155 (qQf C w 155 155 jV) qfin 155 56 j29) : qSnd C w 5 155 (qQf C w 155 155 jV) qfin 155 55 (tX0_layThose_28 j29) :=
  cC (pc := 55) h dX0_layThose_55 rfl (k29)
set_option maxRecDepth 20000 in
theorem lX0_layThose_28 (k6 : Int32 → Int32 → Int32 → qM → Option (Unit × qM)) (a1 : Int32) (a2 : Int32) (a3 : Int32) (m : qM) : tX0_layThose_28 (wX0_layThose_29 (fX0_layThose_29 k6)) [some (.ref 68), some (.int a1), some (.int a2), some (.int a3), none] [] m = fX0_layThose_28 k6 a1 a2 a3 m := rfl
theorem bX0_layThose_28 {C : qCx} {w : qWp} (h : qOk C w RX0 cX0_layThose 5 5 155 155) (hm : qMt C none) (hx : qNx C) {k6 : Int32 → Int32 → Int32 → qM → Option (Unit × qM)} (h6 : qSnd C w 5 155 (qQf C w 155 155 jV) qfin 155 9 (wX0_layThose_6 k6)) : qSnd C w 5 155 (qQf C w 155 155 jV) qfin 155 55 (wX0_layThose_28 (fX0_layThose_28 k6)) :=
  qSnd_of (fun lo st m x hr0 => by
    unfold wX0_layThose_28 at hr0
    split at hr0
    · exact ⟨_, (qsub_e (qsub_e (qsub_e (qsub_e (qsub_n qsub_nil))))), (lX0_layThose_28 _ _ _ _ _).trans hr0⟩
    · cases hr0) (sX0_layThose_28 h hm hx (bX0_layThose_29 h hm hx h6))
noncomputable def tX0_layThose_6 (j2 : qT (Unit × qM)) (j28 : qT (Unit × qM)) (j29 : qT (Unit × qM)) : qT (Unit × qM) :=
  oLi 3 (oLa 0 (oGf 68 1 58 (oCi GX4_asks 1 (oCGe (oInc 2 (-1 : Int32) (j2)) (oLa 0 (oGf 68 1 58 (oLi 3 (oCi GX4_isMust 2 (oLi 1 (oCEq (oLa 0 (oGf 68 0 47 (oLa 0 (oGf 68 1 58 (oLi 3 (oCi GX4_familyOf 2 (oCi GX3_yearsOf 2 (oLi 2 (oCEq (oC (.int (1 : Int32)) (j29)) (j28)))))))))) (j28)))))))))))
noncomputable def wX0_layThose_2 (k : Int32 → Int32 → qM → Option (Unit × qM)) : qT (Unit × qM) := fun lo st m => match lo, st with
  | [some (.ref 68), some (.int a1), some (.int a2), _, _], [] => k a1 a2 m
  | _, _ => none
set_option maxRecDepth 20000 in
theorem sX0_layThose_6 {C : qCx} {w : qWp} (h : qOk C w RX0 cX0_layThose 5 5 155 155) (hm : qMt C none) (hx : qNx C) {j2 : qT (Unit × qM)} {j28 : qT (Unit × qM)} {j29 : qT (Unit × qM)} (k2 : qSnd C w 5 155 (qQf C w 155 155 jV) qfin 155 3 j2) (k28 : qSnd C w 5 155 (qQf C w 155 155 jV) qfin 155 55 j28) (k29 : qSnd C w 5 155 (qQf C w 155 155 jV) qfin 155 56 j29) : qSnd C w 5 155 (qQf C w 155 155 jV) qfin 155 9 (tX0_layThose_6 j2 j28 j29) :=
  cLi (pc := 9) h dX0_layThose_9 rfl (cLa (pc := 10) h dX0_layThose_10 rfl (gGf (pc := 11) h dX0_layThose_11 ff_X0_55_68 (Nat.le_of_ble_eq_true rfl) (Nat.le_of_ble_eq_true rfl) rfl (kCi (pc := 14) h (kd_X0_69 h dX0_layThose_14) spX4_asks (by decide) (by decide) (by decide) (by decide) (jCGe (pc := 17) h dX0_layThose_17 rfl (cInc (pc := 85) h dX0_layThose_85 rfl (jGo (pc := 88) h dX0_layThose_88 rfl (k2))) (cLa (pc := 20) h dX0_layThose_20 rfl (gGf (pc := 21) h dX0_layThose_21 ff_X0_55_68 (Nat.le_of_ble_eq_true rfl) (Nat.le_of_ble_eq_true rfl) rfl (cLi (pc := 24) h dX0_layThose_24 rfl (kCi (pc := 25) h (kd_X0_72 h dX0_layThose_25) spX4_isMust (by decide) (by decide) (by decide) (by decide) (cLi (pc := 28) h dX0_layThose_28 rfl (jCNe (pc := 29) h dX0_layThose_29 rfl (k28) (cLa (pc := 32) h dX0_layThose_32 rfl (gGf (pc := 33) h dX0_layThose_33 ff_X0_51_68 (Nat.le_of_ble_eq_true rfl) (Nat.le_of_ble_eq_true rfl) rfl (cLa (pc := 36) h dX0_layThose_36 rfl (gGf (pc := 37) h dX0_layThose_37 ff_X0_55_68 (Nat.le_of_ble_eq_true rfl) (Nat.le_of_ble_eq_true rfl) rfl (cLi (pc := 40) h dX0_layThose_40 rfl (kCi (pc := 41) h (kd_X0_76 h dX0_layThose_41) spX4_familyOf (by decide) (by decide) (by decide) (by decide) (kCi (pc := 44) h (kd_X0_80 h dX0_layThose_44) spX3_yearsOf (by decide) (by decide) (by decide) (by decide) (cLi (pc := 47) h dX0_layThose_47 rfl (jCNe (pc := 48) h dX0_layThose_48 rfl (k28) (cC (pc := 51) h dX0_layThose_51 rfl (jGo (pc := 52) h dX0_layThose_52 rfl (k29))))))))))))))))))))))
set_option maxRecDepth 20000 in
theorem lX0_layThose_6 (k2 : Int32 → Int32 → qM → Option (Unit × qM)) (n : Nat) (a1 : Int32) (a2 : Int32) (a3 : Int32) (m : qM) : tX0_layThose_6 (wX0_layThose_2 k2) (wX0_layThose_28 (fX0_layThose_28 (fX0_layThose_6 k2 n))) (wX0_layThose_29 (fX0_layThose_29 (fX0_layThose_6 k2 n))) [some (.ref 68), some (.int a1), some (.int a2), some (.int a3), none] [] m = fX0_layThose_6 k2 (n + 1) a1 a2 a3 m := rfl
theorem bX0_layThose_6 {C : qCx} {w : qWp} (h : qOk C w RX0 cX0_layThose 5 5 155 155) (hm : qMt C none) (hx : qNx C) {k2 : Int32 → Int32 → qM → Option (Unit × qM)} (h2 : qSnd C w 5 155 (qQf C w 155 155 jV) qfin 155 3 (wX0_layThose_2 k2)) : ∀ n : Nat, qSnd C w 5 155 (qQf C w 155 155 jV) qfin 155 9 (wX0_layThose_6 (fX0_layThose_6 k2 n))
  | 0 => qSnd_of0 (fun lo st m x hr0 => by
    unfold wX0_layThose_6 at hr0
    split at hr0
    · cases hr0
    · cases hr0)
  | n + 1 => by
    have ih := bX0_layThose_6 h hm hx h2 n
    exact qSnd_of (fun lo st m x hr0 => by
    unfold wX0_layThose_6 at hr0
    split at hr0
    · exact ⟨_, (qsub_e (qsub_e (qsub_e (qsub_e (qsub_n qsub_nil))))), (lX0_layThose_6 _ n _ _ _ _).trans hr0⟩
    · cases hr0) (sX0_layThose_6 h hm hx h2 (bX0_layThose_28 h hm hx ih) (bX0_layThose_29 h hm hx ih))
noncomputable def tX0_layThose_2 (j6 : qT (Unit × qM)) : qT (Unit × qM) :=
  oLi 2 (oLt (eV) (oC (.int (0 : Int32)) (oSi 3 (j6))))
set_option maxRecDepth 20000 in
theorem sX0_layThose_2 {C : qCx} {w : qWp} (h : qOk C w RX0 cX0_layThose 5 5 155 155) (hm : qMt C none) (hx : qNx C) {j6 : qT (Unit × qM)} (k6 : qSnd C w 5 155 (qQf C w 155 155 jV) qfin 155 9 j6) : qSnd C w 5 155 (qQf C w 155 155 jV) qfin 155 3 (tX0_layThose_2 j6) :=
  cLi (pc := 3) h dX0_layThose_3 rfl (jLt (pc := 4) h dX0_layThose_4 rfl (zV (pc := 91) h hm (Nat.le_refl _) dX0_layThose_91) (cC (pc := 7) h dX0_layThose_7 rfl (cSi (pc := 8) h dX0_layThose_8 rfl (k6))))
set_option maxRecDepth 20000 in
theorem lX0_layThose_2 (n : Nat) (a1 : Int32) (a2 : Int32) (m : qM) : tX0_layThose_2 (wX0_layThose_6 (fX0_layThose_6 (fX0_layThose_2 n) FU)) [some (.ref 68), some (.int a1), some (.int a2), none, none] [] m = fX0_layThose_2 (n + 1) a1 a2 m := rfl
theorem bX0_layThose_2 {C : qCx} {w : qWp} (h : qOk C w RX0 cX0_layThose 5 5 155 155) (hm : qMt C none) (hx : qNx C) : ∀ n : Nat, qSnd C w 5 155 (qQf C w 155 155 jV) qfin 155 3 (wX0_layThose_2 (fX0_layThose_2 n))
  | 0 => qSnd_of0 (fun lo st m x hr0 => by
    unfold wX0_layThose_2 at hr0
    split at hr0
    · cases hr0
    · cases hr0)
  | n + 1 => by
    have ih := bX0_layThose_2 h hm hx n
    exact qSnd_of (fun lo st m x hr0 => by
    unfold wX0_layThose_2 at hr0
    split at hr0
    · exact ⟨_, (qsub_e (qsub_e (qsub_e (qsub_n (qsub_n qsub_nil))))), (lX0_layThose_2 n _ _ _).trans hr0⟩
    · cases hr0) (sX0_layThose_2 h hm hx (bX0_layThose_6 h hm hx ih FU))
noncomputable def tX0_layThose_0 (j2 : qT (Unit × qM)) : qT (Unit × qM) :=
  oC (.int (9 : Int32)) (oSi 2 (j2))
set_option maxRecDepth 20000 in
theorem sX0_layThose_0 {C : qCx} {w : qWp} (h : qOk C w RX0 cX0_layThose 5 5 155 155) (hm : qMt C none) (hx : qNx C) {j2 : qT (Unit × qM)} (k2 : qSnd C w 5 155 (qQf C w 155 155 jV) qfin 155 3 j2) : qSnd C w 5 155 (qQf C w 155 155 jV) qfin 155 0 (tX0_layThose_0 j2) :=
  cB (pc := 0) h dX0_layThose_0 rfl (cSi (pc := 2) h dX0_layThose_2 rfl (k2))
set_option maxRecDepth 20000 in
theorem lX0_layThose_0 (a1 : Int32) (m : qM) : tX0_layThose_0 (wX0_layThose_2 (fX0_layThose_2 FU)) [some (.ref 68), some (.int a1), none, none, none] [] m = fX0_layThose_0 a1 m := rfl
noncomputable def GX0_layThose : qG Unit := fun av m => match av with
  | [.ref 68, .int a1] => fX0_layThose a1 m
  | _ => none
theorem spX0_layThose : qSpV yX0_layThose (.code yX0_layThose cX0_layThose 5 none) 5 qfin 155 155 1 GX0_layThose := by
  intro av m m' hG
  unfold GX0_layThose at hG
  split at hG
  · rename_i a1
    rw [fX0_layThose_d] at hG
    exact ⟨qmeet (J := jV) (r := ((), m')) (av := [.ref 68, .int a1]) (by decide +kernel) (Nat.le_of_ble_eq_true rfl) (fun C w h hm hx hn => sX0_layThose_0 h hm hx (bX0_layThose_2 h hm hx FU)) ((lX0_layThose_0 _ _).trans hG) (Nat.le_of_ble_eq_true rfl), Or.inl ⟨68, _, 0, _, _, rfl, by decide, rfl, qCk_0, rfl⟩⟩
  · cases hG
theorem im_X4_laid : Jvm.Cond.instanceMethod yX4_laid ∈ qTw := qm2 (List.mem_of_getElem? (i := 236) (by decide +kernel)) (by decide +kernel)
theorem se_X4_laid : Jvm.Cond.selects yX4_laid.cls yX4_laid yX4_laid ∈ qTw := qm2 (List.mem_of_getElem? (i := 237) (by decide +kernel)) (by decide +kernel)
theorem co_X4_laid : Jvm.Cond.code yX4_laid cX4_laid 1 (some .int) ∈ qTw := qm2 (List.mem_of_getElem? (i := 238) (by decide +kernel)) (by decide +kernel)
theorem yk_X4_laid : qYk yX4_laid 0 := ⟨⟨by decide +kernel, by decide +kernel⟩, by decide +kernel⟩
theorem ml_X0_59 : Jvm.Cond.methodLink RX0 59 yX4_laid ∈ qTw := qm4 (List.mem_of_getElem? (i := 149) (by decide +kernel)) (by decide +kernel)
theorem kd_X0_59 {C : qCx} {w : qWp} {cc : ByteArray} {nL dp n0 n1 pc : Nat} (h : qOk C w RX0 cc nL dp n0 n1) (d : decode cc pc = .ok (.invokevirtual 59, 3)) : qCallOk C w nL dp n0 n1 pc 1 1 yX4_laid (.code yX4_laid cX4_laid 1 (some .int)) := kindV h d ml_X0_59 im_X4_laid se_X4_laid in_ParentEve_Plan co_X4_laid yk_X4_laid (by decide)
theorem im_X0_layThose : Jvm.Cond.instanceMethod yX0_layThose ∈ qTw := qm4 (List.mem_of_getElem? (i := 152) (by decide +kernel)) (by decide +kernel)
theorem se_X0_layThose : Jvm.Cond.selects yX0_layThose.cls yX0_layThose yX0_layThose ∈ qTw := List.mem_filter.mpr ⟨List.mem_append_left _ (List.mem_of_getElem? (i := 10) (by decide +kernel)), rfl⟩
theorem co_X0_layThose : Jvm.Cond.code yX0_layThose cX0_layThose 5 none ∈ qTw := qm4 (List.mem_of_getElem? (i := 153) (by decide +kernel)) (by decide +kernel)
theorem yk_X0_layThose : qYk yX0_layThose 1 := ⟨⟨by decide +kernel, by decide +kernel⟩, by decide +kernel⟩
theorem ml_X0_65 : Jvm.Cond.methodLink RX0 65 yX0_layThose ∈ qTw := qm4 (List.mem_of_getElem? (i := 150) (by decide +kernel)) (by decide +kernel)
theorem kd_X0_65 {C : qCx} {w : qWp} {cc : ByteArray} {nL dp n0 n1 pc : Nat} (h : qOk C w RX0 cc nL dp n0 n1) (d : decode cc pc = .ok (.invokevirtual 65, 3)) : qCallOk C w nL dp n0 n1 pc 2 1 yX0_layThose (.code yX0_layThose cX0_layThose 5 none) := kindV h d ml_X0_65 im_X0_layThose se_X0_layThose in_ParentEve_Chooser co_X0_layThose yk_X0_layThose (by decide)
theorem dX0_layEveryOne_0 : decode cX0_layEveryOne 0 = .ok (.aload_n 0, 1) := by decide +kernel
theorem dX0_layEveryOne_1 : decode cX0_layEveryOne 1 = .ok (.getfield 55, 3) := by decide +kernel
theorem dX0_layEveryOne_4 : decode cX0_layEveryOne 4 = .ok (.invokevirtual 59, 3) := by decide +kernel
theorem dX0_layEveryOne_7 : decode cX0_layEveryOne 7 = .ok (.istore_n 1, 1) := by decide +kernel
theorem dX0_layEveryOne_8 : decode cX0_layEveryOne 8 = .ok (.aload_n 0, 1) := by decide +kernel
theorem dX0_layEveryOne_9 : decode cX0_layEveryOne 9 = .ok (.iconst 1, 1) := by decide +kernel
theorem dX0_layEveryOne_10 : decode cX0_layEveryOne 10 = .ok (.invokevirtual 65, 3) := by decide +kernel
theorem dX0_layEveryOne_13 : decode cX0_layEveryOne 13 = .ok (.aload_n 0, 1) := by decide +kernel
theorem dX0_layEveryOne_14 : decode cX0_layEveryOne 14 = .ok (.iconst 0, 1) := by decide +kernel
theorem dX0_layEveryOne_15 : decode cX0_layEveryOne 15 = .ok (.invokevirtual 65, 3) := by decide +kernel
theorem dX0_layEveryOne_18 : decode cX0_layEveryOne 18 = .ok (.aload_n 0, 1) := by decide +kernel
theorem dX0_layEveryOne_19 : decode cX0_layEveryOne 19 = .ok (.getfield 55, 3) := by decide +kernel
theorem dX0_layEveryOne_22 : decode cX0_layEveryOne 22 = .ok (.invokevirtual 59, 3) := by decide +kernel
theorem dX0_layEveryOne_25 : decode cX0_layEveryOne 25 = .ok (.iload_n 1, 1) := by decide +kernel
theorem dX0_layEveryOne_26 : decode cX0_layEveryOne 26 = .ok (.isub, 1) := by decide +kernel
theorem dX0_layEveryOne_27 : decode cX0_layEveryOne 27 = .ok (.ireturn, 1) := by decide +kernel
noncomputable def tX0_layEveryOne_0 : qT (Int32 × qM) :=
  oLa 0 (oGf 68 1 58 (oCi GX4_laid 1 (oSi 1 (oLa 0 (oC (.int (1 : Int32)) (oCv GX0_layThose 2 (oLa 0 (oC (.int (0 : Int32)) (oCv GX0_layThose 2 (oLa 0 (oGf 68 1 58 (oCi GX4_laid 1 (oLi 1 (o2 (· - ·) (eI)))))))))))))))
set_option maxRecDepth 20000 in
theorem sX0_layEveryOne_0 {C : qCx} {w : qWp} (h : qOk C w RX0 cX0_layEveryOne 2 6 155 155) (hm : qMt C (some .int)) (hx : qNx C) : qSnd C w 2 155 (qQf C w 155 155 jI) qfin 155 0 (tX0_layEveryOne_0) :=
  cLa (pc := 0) h dX0_layEveryOne_0 rfl (gGf (pc := 1) h dX0_layEveryOne_1 ff_X0_55_68 (Nat.le_of_ble_eq_true rfl) (Nat.le_of_ble_eq_true rfl) rfl (kCi (pc := 4) h (kd_X0_59 h dX0_layEveryOne_4) spX4_laid (by decide) (by decide) (by decide) (by decide) (cSi (pc := 7) h dX0_layEveryOne_7 rfl (cLa (pc := 8) h dX0_layEveryOne_8 rfl (cC (pc := 9) h dX0_layEveryOne_9 rfl (kCv (pc := 10) h (kd_X0_65 h dX0_layEveryOne_10) spX0_layThose (by decide) (by decide) (by decide) (by decide) (cLa (pc := 13) h dX0_layEveryOne_13 rfl (cC (pc := 14) h dX0_layEveryOne_14 rfl (kCv (pc := 15) h (kd_X0_65 h dX0_layEveryOne_15) spX0_layThose (by decide) (by decide) (by decide) (by decide) (cLa (pc := 18) h dX0_layEveryOne_18 rfl (gGf (pc := 19) h dX0_layEveryOne_19 ff_X0_55_68 (Nat.le_of_ble_eq_true rfl) (Nat.le_of_ble_eq_true rfl) rfl (kCi (pc := 22) h (kd_X0_59 h dX0_layEveryOne_22) spX4_laid (by decide) (by decide) (by decide) (by decide) (cLi (pc := 25) h dX0_layEveryOne_25 rfl (aSub (pc := 26) h dX0_layEveryOne_26 (zI (pc := 27) h hm (Nat.le_refl _) dX0_layEveryOne_27)))))))))))))))
set_option maxRecDepth 20000 in
theorem lX0_layEveryOne_0 (m : qM) : tX0_layEveryOne_0 [some (.ref 68), none] [] m = fX0_layEveryOne_0 m := rfl
noncomputable def GX0_layEveryOne : qG Int32 := fun av m => match av with
  | [.ref 68] => fX0_layEveryOne m
  | _ => none
theorem spX0_layEveryOne : qSpI yX0_layEveryOne (.code yX0_layEveryOne cX0_layEveryOne 2 (some .int)) 6 qfin 155 155 1 GX0_layEveryOne := by
  intro av m x m' hG
  unfold GX0_layEveryOne at hG
  split at hG
  · rw [fX0_layEveryOne_d] at hG
    exact ⟨qmeet (J := jI) (r := (x, m')) (av := [.ref 68]) (by decide +kernel) (Nat.le_of_ble_eq_true rfl) (fun C w h hm hx hn => sX0_layEveryOne_0 h hm hx) ((lX0_layEveryOne_0 _).trans hG) (Nat.le_of_ble_eq_true rfl), Or.inl ⟨68, _, 0, _, _, rfl, by decide, rfl, qCk_0, rfl⟩⟩
  · cases hG
theorem dX0_clear_0 : decode cX0_clear 0 = .ok (.aload_n 0, 1) := by decide +kernel
theorem dX0_clear_1 : decode cX0_clear 1 = .ok (.iconst 0, 1) := by decide +kernel
theorem dX0_clear_2 : decode cX0_clear 2 = .ok (.putfield 28, 3) := by decide +kernel
theorem dX0_clear_5 : decode cX0_clear 5 = .ok (.return_, 1) := by decide +kernel
noncomputable def tX0_clear_0 : qT (Unit × qM) :=
  oLa 0 (oC (.int (0 : Int32)) (oPi 68 7 (eV)))
set_option maxRecDepth 20000 in
theorem sX0_clear_0 {C : qCx} {w : qWp} (h : qOk C w RX0 cX0_clear 1 0 155 155) (hm : qMt C none) (hx : qNx C) : qSnd C w 1 155 (qQf C w 155 155 jV) qfin 155 0 (tX0_clear_0) :=
  cLa (pc := 0) h dX0_clear_0 rfl (cC (pc := 1) h dX0_clear_1 rfl (gPi (pc := 2) h dX0_clear_2 ff_X0_28_68 (Or.inl rfl) (Nat.le_of_ble_eq_true rfl) (Nat.le_of_ble_eq_true rfl) (zV (pc := 5) h hm (Nat.le_refl _) dX0_clear_5)))
set_option maxRecDepth 20000 in
theorem lX0_clear_0 (m : qM) : tX0_clear_0 [some (.ref 68)] [] m = fX0_clear_0 m := rfl
noncomputable def GX0_clear : qG Unit := fun av m => match av with
  | [.ref 68] => fX0_clear m
  | _ => none
theorem spX0_clear : qSpV yX0_clear (.code yX0_clear cX0_clear 1 none) 0 qfin 155 155 1 GX0_clear := by
  intro av m m' hG
  unfold GX0_clear at hG
  split at hG
  · rw [fX0_clear_d] at hG
    exact ⟨qmeet (J := jV) (r := ((), m')) (av := [.ref 68]) (by decide +kernel) (Nat.le_of_ble_eq_true rfl) (fun C w h hm hx hn => sX0_clear_0 h hm hx) ((lX0_clear_0 _).trans hG) (Nat.le_of_ble_eq_true rfl), Or.inl ⟨68, _, 0, _, _, rfl, by decide, rfl, qCk_0, rfl⟩⟩
  · cases hG
theorem dX0_pick_0 : decode cX0_pick 0 = .ok (.aload_n 0, 1) := by decide +kernel
theorem dX0_pick_1 : decode cX0_pick 1 = .ok (.getfield 28, 3) := by decide +kernel
theorem dX0_pick_4 : decode cX0_pick 4 = .ok (.iconst 4, 1) := by decide +kernel
theorem dX0_pick_5 : decode cX0_pick 5 = .ok (.if_icmp .ge 23, 3) := by decide +kernel
theorem dX0_pick_8 : decode cX0_pick 8 = .ok (.aload_n 0, 1) := by decide +kernel
theorem dX0_pick_9 : decode cX0_pick 9 = .ok (.getfield 9, 3) := by decide +kernel
theorem dX0_pick_12 : decode cX0_pick 12 = .ok (.aload_n 0, 1) := by decide +kernel
theorem dX0_pick_13 : decode cX0_pick 13 = .ok (.getfield 28, 3) := by decide +kernel
theorem dX0_pick_16 : decode cX0_pick 16 = .ok (.iload_n 1, 1) := by decide +kernel
theorem dX0_pick_17 : decode cX0_pick 17 = .ok (.iastore, 1) := by decide +kernel
theorem dX0_pick_18 : decode cX0_pick 18 = .ok (.aload_n 0, 1) := by decide +kernel
theorem dX0_pick_19 : decode cX0_pick 19 = .ok (.dup, 1) := by decide +kernel
theorem dX0_pick_20 : decode cX0_pick 20 = .ok (.getfield 28, 3) := by decide +kernel
theorem dX0_pick_23 : decode cX0_pick 23 = .ok (.iconst 1, 1) := by decide +kernel
theorem dX0_pick_24 : decode cX0_pick 24 = .ok (.iadd, 1) := by decide +kernel
theorem dX0_pick_25 : decode cX0_pick 25 = .ok (.putfield 28, 3) := by decide +kernel
theorem dX0_pick_28 : decode cX0_pick 28 = .ok (.return_, 1) := by decide +kernel
noncomputable def tX0_pick_16 : qT (Unit × qM) :=
  eV
noncomputable def wX0_pick_16 (k : qM → Option (Unit × qM)) : qT (Unit × qM) := fun lo st m => match lo, st with
  | [_, _], [] => k m
  | _, _ => none
set_option maxRecDepth 20000 in
theorem sX0_pick_16 {C : qCx} {w : qWp} (h : qOk C w RX0 cX0_pick 2 0 155 155) (hm : qMt C none) (hx : qNx C) : qSnd C w 2 155 (qQf C w 155 155 jV) qfin 155 28 (tX0_pick_16) :=
  zV (pc := 28) h hm (Nat.le_refl _) dX0_pick_28
set_option maxRecDepth 20000 in
theorem lX0_pick_16 (m : qM) : tX0_pick_16 [none, none] [] m = fX0_pick_16 m := rfl
theorem bX0_pick_16 {C : qCx} {w : qWp} (h : qOk C w RX0 cX0_pick 2 0 155 155) (hm : qMt C none) (hx : qNx C) : qSnd C w 2 155 (qQf C w 155 155 jV) qfin 155 28 (wX0_pick_16 fX0_pick_16) :=
  qSnd_of (fun lo st m x hr0 => by
    unfold wX0_pick_16 at hr0
    split at hr0
    · exact ⟨_, (qsub_n (qsub_n qsub_nil)), (lX0_pick_16 _).trans hr0⟩
    · cases hr0) (sX0_pick_16 h hm hx)
noncomputable def tX0_pick_0 (j16 : qT (Unit × qM)) : qT (Unit × qM) :=
  oLa 0 (oGi 68 7 (oC (.int (4 : Int32)) (oCGe (j16) (oLa 0 (oGf 68 2 69 (oLa 0 (oGi 68 7 (oLi 1 (oWi 69 4 (oLa 0 (oDup (oGi 68 7 (oC (.int (1 : Int32)) (o2 (· + ·) (oPi 68 7 (j16))))))))))))))))
set_option maxRecDepth 20000 in
theorem sX0_pick_0 {C : qCx} {w : qWp} (h : qOk C w RX0 cX0_pick 2 0 155 155) (hm : qMt C none) (hx : qNx C) {j16 : qT (Unit × qM)} (k16 : qSnd C w 2 155 (qQf C w 155 155 jV) qfin 155 28 j16) : qSnd C w 2 155 (qQf C w 155 155 jV) qfin 155 0 (tX0_pick_0 j16) :=
  cLa (pc := 0) h dX0_pick_0 rfl (gGi (pc := 1) h dX0_pick_1 ff_X0_28_68 (Nat.le_of_ble_eq_true rfl) (Nat.le_of_ble_eq_true rfl) (cC (pc := 4) h dX0_pick_4 rfl (jCGe (pc := 5) h dX0_pick_5 rfl (k16) (cLa (pc := 8) h dX0_pick_8 rfl (gGf (pc := 9) h dX0_pick_9 ff_X0_9_68 (Nat.le_of_ble_eq_true rfl) (Nat.le_of_ble_eq_true rfl) rfl (cLa (pc := 12) h dX0_pick_12 rfl (gGi (pc := 13) h dX0_pick_13 ff_X0_28_68 (Nat.le_of_ble_eq_true rfl) (Nat.le_of_ble_eq_true rfl) (cLi (pc := 16) h dX0_pick_16 rfl (rWi (pc := 17) h dX0_pick_17 rfl (Nat.le_of_ble_eq_true rfl) (Nat.le_of_ble_eq_true rfl) (cLa (pc := 18) h dX0_pick_18 rfl (aDup (pc := 19) h dX0_pick_19 (gGi (pc := 20) h dX0_pick_20 ff_X0_28_68 (Nat.le_of_ble_eq_true rfl) (Nat.le_of_ble_eq_true rfl) (cC (pc := 23) h dX0_pick_23 rfl (aAdd (pc := 24) h dX0_pick_24 (gPi (pc := 25) h dX0_pick_25 ff_X0_28_68 (Or.inl rfl) (Nat.le_of_ble_eq_true rfl) (Nat.le_of_ble_eq_true rfl) (k16))))))))))))))))
set_option maxRecDepth 20000 in
theorem lX0_pick_0 (a1 : Int32) (m : qM) : tX0_pick_0 (wX0_pick_16 fX0_pick_16) [some (.ref 68), some (.int a1)] [] m = fX0_pick_0 a1 m := rfl
noncomputable def GX0_pick : qG Unit := fun av m => match av with
  | [.ref 68, .int a1] => fX0_pick a1 m
  | _ => none
theorem spX0_pick : qSpV yX0_pick (.code yX0_pick cX0_pick 2 none) 0 qfin 155 155 1 GX0_pick := by
  intro av m m' hG
  unfold GX0_pick at hG
  split at hG
  · rename_i a1
    rw [fX0_pick_d] at hG
    exact ⟨qmeet (J := jV) (r := ((), m')) (av := [.ref 68, .int a1]) (by decide +kernel) (Nat.le_of_ble_eq_true rfl) (fun C w h hm hx hn => sX0_pick_0 h hm hx (bX0_pick_16 h hm hx)) ((lX0_pick_0 _ _).trans hG) (Nat.le_of_ble_eq_true rfl), Or.inl ⟨68, _, 0, _, _, rfl, by decide, rfl, qCk_0, rfl⟩⟩
  · cases hG
theorem fc_X4_136 : Jvm.Cond.constantLong RX4 136 (1048576 : Int64) ∈ qTw := qm4 (List.mem_of_getElem? (i := 200) (by decide +kernel)) (by decide +kernel)
theorem fc_X4_134 : Jvm.Cond.constantLong RX4 134 (67108864 : Int64) ∈ qTw := qm4 (List.mem_of_getElem? (i := 201) (by decide +kernel)) (by decide +kernel)
theorem fc_X4_138 : Jvm.Cond.constantLong RX4 138 (1024 : Int64) ∈ qTw := qm4 (List.mem_of_getElem? (i := 202) (by decide +kernel)) (by decide +kernel)
theorem dX4_greatestGain_0 : decode cX4_greatestGain 0 = .ok (.ldc2_w 136, 3) := by decide +kernel
theorem dX4_greatestGain_3 : decode cX4_greatestGain 3 = .ok (.aload_n 0, 1) := by decide +kernel
theorem dX4_greatestGain_4 : decode cX4_greatestGain 4 = .ok (.getfield 18, 3) := by decide +kernel
theorem dX4_greatestGain_7 : decode cX4_greatestGain 7 = .ok (.iload_n 1, 1) := by decide +kernel
theorem dX4_greatestGain_8 : decode cX4_greatestGain 8 = .ok (.baload, 1) := by decide +kernel
theorem dX4_greatestGain_9 : decode cX4_greatestGain 9 = .ok (.ifCond .eq 9, 3) := by decide +kernel
theorem dX4_greatestGain_12 : decode cX4_greatestGain 12 = .ok (.ldc2_w 134, 3) := by decide +kernel
theorem dX4_greatestGain_15 : decode cX4_greatestGain 15 = .ok (.goto 4, 3) := by decide +kernel
theorem dX4_greatestGain_18 : decode cX4_greatestGain 18 = .ok (.lconst 0, 1) := by decide +kernel
theorem dX4_greatestGain_19 : decode cX4_greatestGain 19 = .ok (.ladd, 1) := by decide +kernel
theorem dX4_greatestGain_20 : decode cX4_greatestGain 20 = .ok (.ldc2_w 138, 3) := by decide +kernel
theorem dX4_greatestGain_23 : decode cX4_greatestGain 23 = .ok (.ladd, 1) := by decide +kernel
theorem dX4_greatestGain_24 : decode cX4_greatestGain 24 = .ok (.lconst 1, 1) := by decide +kernel
theorem dX4_greatestGain_25 : decode cX4_greatestGain 25 = .ok (.ladd, 1) := by decide +kernel
theorem dX4_greatestGain_26 : decode cX4_greatestGain 26 = .ok (.aload_n 0, 1) := by decide +kernel
theorem dX4_greatestGain_27 : decode cX4_greatestGain 27 = .ok (.getfield 63, 3) := by decide +kernel
theorem dX4_greatestGain_30 : decode cX4_greatestGain 30 = .ok (.aload_n 0, 1) := by decide +kernel
theorem dX4_greatestGain_31 : decode cX4_greatestGain 31 = .ok (.getfield 9, 3) := by decide +kernel
theorem dX4_greatestGain_34 : decode cX4_greatestGain 34 = .ok (.iload_n 1, 1) := by decide +kernel
theorem dX4_greatestGain_35 : decode cX4_greatestGain 35 = .ok (.iaload, 1) := by decide +kernel
theorem dX4_greatestGain_36 : decode cX4_greatestGain 36 = .ok (.invokevirtual 131, 3) := by decide +kernel
theorem dX4_greatestGain_39 : decode cX4_greatestGain 39 = .ok (.i2l, 1) := by decide +kernel
theorem dX4_greatestGain_40 : decode cX4_greatestGain 40 = .ok (.ladd, 1) := by decide +kernel
theorem dX4_greatestGain_41 : decode cX4_greatestGain 41 = .ok (.lreturn, 1) := by decide +kernel
noncomputable def tX4_greatestGain_9 : qT (Int64 × qM) :=
  oJJ (· + ·) (oC (.long (1024 : Int64)) (oJJ (· + ·) (oC (.long (1 : Int64)) (oJJ (· + ·) (oLa 0 (oGf 58 1 47 (oLa 0 (oGf 58 2 59 (oLi 1 (oAi 59 40 (oCi GX3_yearsOf 2 (oI2l (oJJ (· + ·) (eL))))))))))))))
noncomputable def wX4_greatestGain_9 (k : Int32 → Int64 → Int64 → qM → Option (Int64 × qM)) : qT (Int64 × qM) := fun lo st m => match lo, st with
  | [some (.ref 58), some (.int a1)], [.long s0, .long s1] => k a1 s0 s1 m
  | _, _ => none
set_option maxRecDepth 20000 in
theorem sX4_greatestGain_9 {C : qCx} {w : qWp} (h : qOk C w RX4 cX4_greatestGain 2 1 155 155) (hm : qMt C (some .long)) (hx : qNx C) : qSnd C w 2 155 (qQf C w 155 155 jL) qfin 155 19 (tX4_greatestGain_9) :=
  aLadd (pc := 19) h dX4_greatestGain_19 (cKJ (pc := 20) h dX4_greatestGain_20 fc_X4_138 (aLadd (pc := 23) h dX4_greatestGain_23 (cJ (pc := 24) h dX4_greatestGain_24 rfl (aLadd (pc := 25) h dX4_greatestGain_25 (cLa (pc := 26) h dX4_greatestGain_26 rfl (gGf (pc := 27) h dX4_greatestGain_27 ff_X4_63_58 (Nat.le_of_ble_eq_true rfl) (Nat.le_of_ble_eq_true rfl) rfl (cLa (pc := 30) h dX4_greatestGain_30 rfl (gGf (pc := 31) h dX4_greatestGain_31 ff_X4_9_58 (Nat.le_of_ble_eq_true rfl) (Nat.le_of_ble_eq_true rfl) rfl (cLi (pc := 34) h dX4_greatestGain_34 rfl (rAi (pc := 35) h dX4_greatestGain_35 rfl (Nat.le_of_ble_eq_true rfl) (Nat.le_of_ble_eq_true rfl) (kCi (pc := 36) h (kd_X4_131 h dX4_greatestGain_36) spX3_yearsOf (by decide) (by decide) (by decide) (by decide) (aI2l (pc := 39) h dX4_greatestGain_39 (aLadd (pc := 40) h dX4_greatestGain_40 (zL (pc := 41) h hm (Nat.le_refl _) dX4_greatestGain_41))))))))))))))
set_option maxRecDepth 20000 in
theorem lX4_greatestGain_9 (a1 : Int32) (s0 : Int64) (s1 : Int64) (m : qM) : tX4_greatestGain_9 [some (.ref 58), some (.int a1)] [(.long s0), (.long s1)] m = fX4_greatestGain_9 a1 s0 s1 m := rfl
theorem bX4_greatestGain_9 {C : qCx} {w : qWp} (h : qOk C w RX4 cX4_greatestGain 2 1 155 155) (hm : qMt C (some .long)) (hx : qNx C) : qSnd C w 2 155 (qQf C w 155 155 jL) qfin 155 19 (wX4_greatestGain_9 fX4_greatestGain_9) :=
  qSnd_of (fun lo st m x hr0 => by
    unfold wX4_greatestGain_9 at hr0
    split at hr0
    · exact ⟨_, (qsub_e (qsub_e qsub_nil)), (lX4_greatestGain_9 _ _ _ _).trans hr0⟩
    · cases hr0) (sX4_greatestGain_9 h hm hx)
noncomputable def tX4_greatestGain_0 (j9 : qT (Int64 × qM)) : qT (Int64 × qM) :=
  oC (.long (1048576 : Int64)) (oLa 0 (oGf 58 4 61 (oLi 1 (oAi 61 40 (oEq (oC (.long (0 : Int64)) (j9)) (oC (.long (67108864 : Int64)) (j9)))))))
set_option maxRecDepth 20000 in
theorem sX4_greatestGain_0 {C : qCx} {w : qWp} (h : qOk C w RX4 cX4_greatestGain 2 1 155 155) (hm : qMt C (some .long)) (hx : qNx C) {j9 : qT (Int64 × qM)} (k9 : qSnd C w 2 155 (qQf C w 155 155 jL) qfin 155 19 j9) : qSnd C w 2 155 (qQf C w 155 155 jL) qfin 155 0 (tX4_greatestGain_0 j9) :=
  cKJ (pc := 0) h dX4_greatestGain_0 fc_X4_136 (cLa (pc := 3) h dX4_greatestGain_3 rfl (gGf (pc := 4) h dX4_greatestGain_4 ff_X4_18_58 (Nat.le_of_ble_eq_true rfl) (Nat.le_of_ble_eq_true rfl) rfl (cLi (pc := 7) h dX4_greatestGain_7 rfl (rAz (pc := 8) h dX4_greatestGain_8 rfl (Nat.le_of_ble_eq_true rfl) (Nat.le_of_ble_eq_true rfl) (jEq (pc := 9) h dX4_greatestGain_9 rfl (cJ (pc := 18) h dX4_greatestGain_18 rfl (k9)) (cKJ (pc := 12) h dX4_greatestGain_12 fc_X4_134 (jGo (pc := 15) h dX4_greatestGain_15 rfl (k9))))))))
set_option maxRecDepth 20000 in
theorem lX4_greatestGain_0 (a1 : Int32) (m : qM) : tX4_greatestGain_0 (wX4_greatestGain_9 fX4_greatestGain_9) [some (.ref 58), some (.int a1)] [] m = fX4_greatestGain_0 a1 m := rfl
noncomputable def GX4_greatestGain : qG Int64 := fun av m => match av with
  | [.ref 58, .int a1] => fX4_greatestGain a1 m
  | _ => none
theorem spX4_greatestGain : qSpL yX4_greatestGain (.code yX4_greatestGain cX4_greatestGain 2 (some .long)) 1 qfin 155 155 1 GX4_greatestGain := by
  intro av m x m' hG
  unfold GX4_greatestGain at hG
  split at hG
  · rename_i a1
    rw [fX4_greatestGain_d] at hG
    exact ⟨qmeet (J := jL) (r := (x, m')) (av := [.ref 58, .int a1]) (by decide +kernel) (Nat.le_of_ble_eq_true rfl) (fun C w h hm hx hn => sX4_greatestGain_0 h hm hx (bX4_greatestGain_9 h hm hx)) ((lX4_greatestGain_0 _ _).trans hG) (Nat.le_of_ble_eq_true rfl), Or.inl ⟨58, _, 4, _, _, rfl, by decide, rfl, qCk_4, rfl⟩⟩
  · cases hG
theorem dX4_gain_0 : decode cX4_gain 0 = .ok (.aload_n 0, 1) := by decide +kernel
theorem dX4_gain_1 : decode cX4_gain 1 = .ok (.getfield 31, 3) := by decide +kernel
theorem dX4_gain_4 : decode cX4_gain 4 = .ok (.aload_n 0, 1) := by decide +kernel
theorem dX4_gain_5 : decode cX4_gain 5 = .ok (.getfield 9, 3) := by decide +kernel
theorem dX4_gain_8 : decode cX4_gain 8 = .ok (.iload_n 1, 1) := by decide +kernel
theorem dX4_gain_9 : decode cX4_gain 9 = .ok (.iaload, 1) := by decide +kernel
theorem dX4_gain_10 : decode cX4_gain 10 = .ok (.iaload, 1) := by decide +kernel
theorem dX4_gain_11 : decode cX4_gain 11 = .ok (.istore_n 3, 1) := by decide +kernel
theorem dX4_gain_12 : decode cX4_gain 12 = .ok (.iload_n 3, 1) := by decide +kernel
theorem dX4_gain_13 : decode cX4_gain 13 = .ok (.iconst 1, 1) := by decide +kernel
theorem dX4_gain_14 : decode cX4_gain 14 = .ok (.iload_n 2, 1) := by decide +kernel
theorem dX4_gain_15 : decode cX4_gain 15 = .ok (.ishl, 1) := by decide +kernel
theorem dX4_gain_16 : decode cX4_gain 16 = .ok (.ior, 1) := by decide +kernel
theorem dX4_gain_17 : decode cX4_gain 17 = .ok (.istore 4, 2) := by decide +kernel
theorem dX4_gain_19 : decode cX4_gain 19 = .ok (.aload_n 0, 1) := by decide +kernel
theorem dX4_gain_20 : decode cX4_gain 20 = .ok (.getfield 22, 3) := by decide +kernel
theorem dX4_gain_23 : decode cX4_gain 23 = .ok (.iload_n 1, 1) := by decide +kernel
theorem dX4_gain_24 : decode cX4_gain 24 = .ok (.iaload, 1) := by decide +kernel
theorem dX4_gain_25 : decode cX4_gain 25 = .ok (.istore 5, 2) := by decide +kernel
theorem dX4_gain_27 : decode cX4_gain 27 = .ok (.aload_n 0, 1) := by decide +kernel
theorem dX4_gain_28 : decode cX4_gain 28 = .ok (.iload_n 1, 1) := by decide +kernel
theorem dX4_gain_29 : decode cX4_gain 29 = .ok (.iload_n 2, 1) := by decide +kernel
theorem dX4_gain_30 : decode cX4_gain 30 = .ok (.invokevirtual 75, 3) := by decide +kernel
theorem dX4_gain_33 : decode cX4_gain 33 = .ok (.i2l, 1) := by decide +kernel
theorem dX4_gain_34 : decode cX4_gain 34 = .ok (.lstore 6, 2) := by decide +kernel
theorem dX4_gain_36 : decode cX4_gain 36 = .ok (.iload 5, 2) := by decide +kernel
theorem dX4_gain_38 : decode cX4_gain 38 = .ok (.iconst (-1), 1) := by decide +kernel
theorem dX4_gain_39 : decode cX4_gain 39 = .ok (.if_icmp .ne 31, 3) := by decide +kernel
theorem dX4_gain_42 : decode cX4_gain 42 = .ok (.lload 6, 2) := by decide +kernel
theorem dX4_gain_44 : decode cX4_gain 44 = .ok (.ldc2_w 136, 3) := by decide +kernel
theorem dX4_gain_47 : decode cX4_gain 47 = .ok (.aload_n 0, 1) := by decide +kernel
theorem dX4_gain_48 : decode cX4_gain 48 = .ok (.getfield 18, 3) := by decide +kernel
theorem dX4_gain_51 : decode cX4_gain 51 = .ok (.iload_n 1, 1) := by decide +kernel
theorem dX4_gain_52 : decode cX4_gain 52 = .ok (.baload, 1) := by decide +kernel
theorem dX4_gain_53 : decode cX4_gain 53 = .ok (.ifCond .eq 9, 3) := by decide +kernel
theorem dX4_gain_56 : decode cX4_gain 56 = .ok (.ldc2_w 134, 3) := by decide +kernel
theorem dX4_gain_59 : decode cX4_gain 59 = .ok (.goto 4, 3) := by decide +kernel
theorem dX4_gain_62 : decode cX4_gain 62 = .ok (.lconst 0, 1) := by decide +kernel
theorem dX4_gain_63 : decode cX4_gain 63 = .ok (.ladd, 1) := by decide +kernel
theorem dX4_gain_64 : decode cX4_gain 64 = .ok (.ladd, 1) := by decide +kernel
theorem dX4_gain_65 : decode cX4_gain 65 = .ok (.lstore 6, 2) := by decide +kernel
theorem dX4_gain_67 : decode cX4_gain 67 = .ok (.goto 30, 3) := by decide +kernel
theorem dX4_gain_70 : decode cX4_gain 70 = .ok (.iload_n 3, 1) := by decide +kernel
theorem dX4_gain_71 : decode cX4_gain 71 = .ok (.iconst 1, 1) := by decide +kernel
theorem dX4_gain_72 : decode cX4_gain 72 = .ok (.iload 5, 2) := by decide +kernel
theorem dX4_gain_74 : decode cX4_gain 74 = .ok (.ishl, 1) := by decide +kernel
theorem dX4_gain_75 : decode cX4_gain 75 = .ok (.iconst (-1), 1) := by decide +kernel
theorem dX4_gain_76 : decode cX4_gain 76 = .ok (.ixor, 1) := by decide +kernel
theorem dX4_gain_77 : decode cX4_gain 77 = .ok (.iand, 1) := by decide +kernel
theorem dX4_gain_78 : decode cX4_gain 78 = .ok (.iconst 1, 1) := by decide +kernel
theorem dX4_gain_79 : decode cX4_gain 79 = .ok (.iload_n 2, 1) := by decide +kernel
theorem dX4_gain_80 : decode cX4_gain 80 = .ok (.ishl, 1) := by decide +kernel
theorem dX4_gain_81 : decode cX4_gain 81 = .ok (.ior, 1) := by decide +kernel
theorem dX4_gain_82 : decode cX4_gain 82 = .ok (.istore 4, 2) := by decide +kernel
theorem dX4_gain_84 : decode cX4_gain 84 = .ok (.lload 6, 2) := by decide +kernel
theorem dX4_gain_86 : decode cX4_gain 86 = .ok (.aload_n 0, 1) := by decide +kernel
theorem dX4_gain_87 : decode cX4_gain 87 = .ok (.iload_n 1, 1) := by decide +kernel
theorem dX4_gain_88 : decode cX4_gain 88 = .ok (.iload 5, 2) := by decide +kernel
theorem dX4_gain_90 : decode cX4_gain 90 = .ok (.invokevirtual 75, 3) := by decide +kernel
theorem dX4_gain_93 : decode cX4_gain 93 = .ok (.i2l, 1) := by decide +kernel
theorem dX4_gain_94 : decode cX4_gain 94 = .ok (.lsub, 1) := by decide +kernel
theorem dX4_gain_95 : decode cX4_gain 95 = .ok (.lstore 6, 2) := by decide +kernel
theorem dX4_gain_97 : decode cX4_gain 97 = .ok (.lload 6, 2) := by decide +kernel
theorem dX4_gain_99 : decode cX4_gain 99 = .ok (.iload 4, 2) := by decide +kernel
theorem dX4_gain_101 : decode cX4_gain 101 = .ok (.invokestatic 79, 3) := by decide +kernel
theorem dX4_gain_104 : decode cX4_gain 104 = .ok (.iload_n 3, 1) := by decide +kernel
theorem dX4_gain_105 : decode cX4_gain 105 = .ok (.invokestatic 79, 3) := by decide +kernel
theorem dX4_gain_108 : decode cX4_gain 108 = .ok (.isub, 1) := by decide +kernel
theorem dX4_gain_109 : decode cX4_gain 109 = .ok (.i2l, 1) := by decide +kernel
theorem dX4_gain_110 : decode cX4_gain 110 = .ok (.ldc2_w 138, 3) := by decide +kernel
theorem dX4_gain_113 : decode cX4_gain 113 = .ok (.lmul, 1) := by decide +kernel
theorem dX4_gain_114 : decode cX4_gain 114 = .ok (.lsub, 1) := by decide +kernel
theorem dX4_gain_115 : decode cX4_gain 115 = .ok (.lreturn, 1) := by decide +kernel
noncomputable def tX4_gain_62 : qT (Int64 × qM) :=
  oLl 6 (oLi 4 (oCi GX11_gapsIn 1 (oLi 3 (oCi GX11_gapsIn 1 (o2 (· - ·) (oI2l (oC (.long (1024 : Int64)) (oJJ (· * ·) (oJJ (· - ·) (eL))))))))))
noncomputable def wX4_gain_62 (k : Int32 → Int32 → Int64 → qM → Option (Int64 × qM)) : qT (Int64 × qM) := fun lo st m => match lo, st with
  | [_, _, _, some (.int a3), some (.int a4), _, some (.long a6), _], [] => k a3 a4 a6 m
  | _, _ => none
set_option maxRecDepth 20000 in
theorem sX4_gain_62 {C : qCx} {w : qWp} (h : qOk C w RX4 cX4_gain 8 2 155 155) (hm : qMt C (some .long)) (hx : qNx C) : qSnd C w 8 155 (qQf C w 155 155 jL) qfin 155 97 (tX4_gain_62) :=
  cLL (pc := 97) h dX4_gain_97 (cLI (pc := 99) h dX4_gain_99 (kCi (pc := 101) h (kd_X4_79 h dX4_gain_101) spX11_gapsIn (by decide) (by decide) (by decide) (by decide) (cLi (pc := 104) h dX4_gain_104 rfl (kCi (pc := 105) h (kd_X4_79 h dX4_gain_105) spX11_gapsIn (by decide) (by decide) (by decide) (by decide) (aSub (pc := 108) h dX4_gain_108 (aI2l (pc := 109) h dX4_gain_109 (cKJ (pc := 110) h dX4_gain_110 fc_X4_138 (aLmul (pc := 113) h dX4_gain_113 (aLsub (pc := 114) h dX4_gain_114 (zL (pc := 115) h hm (Nat.le_refl _) dX4_gain_115))))))))))
set_option maxRecDepth 20000 in
theorem lX4_gain_62 (a3 : Int32) (a4 : Int32) (a6 : Int64) (m : qM) : tX4_gain_62 [none, none, none, some (.int a3), some (.int a4), none, some (.long a6), none] [] m = fX4_gain_62 a3 a4 a6 m := rfl
theorem bX4_gain_62 {C : qCx} {w : qWp} (h : qOk C w RX4 cX4_gain 8 2 155 155) (hm : qMt C (some .long)) (hx : qNx C) : qSnd C w 8 155 (qQf C w 155 155 jL) qfin 155 97 (wX4_gain_62 fX4_gain_62) :=
  qSnd_of (fun lo st m x hr0 => by
    unfold wX4_gain_62 at hr0
    split at hr0
    · exact ⟨_, (qsub_n (qsub_n (qsub_n (qsub_e (qsub_e (qsub_n (qsub_e (qsub_n qsub_nil)))))))), (lX4_gain_62 _ _ _ _).trans hr0⟩
    · cases hr0) (sX4_gain_62 h hm hx)
noncomputable def tX4_gain_38 (j62 : qT (Int64 × qM)) : qT (Int64 × qM) :=
  oJJ (· + ·) (oJJ (· + ·) (oSl 6 (j62)))
noncomputable def wX4_gain_38 (k : Int32 → Int32 → Int64 → Int64 → Int64 → qM → Option (Int64 × qM)) : qT (Int64 × qM) := fun lo st m => match lo, st with
  | [_, _, _, some (.int a3), some (.int a4), _, _, _], [.long s0, .long s1, .long s2] => k a3 a4 s0 s1 s2 m
  | _, _ => none
set_option maxRecDepth 20000 in
theorem sX4_gain_38 {C : qCx} {w : qWp} (h : qOk C w RX4 cX4_gain 8 2 155 155) (hm : qMt C (some .long)) (hx : qNx C) {j62 : qT (Int64 × qM)} (k62 : qSnd C w 8 155 (qQf C w 155 155 jL) qfin 155 97 j62) : qSnd C w 8 155 (qQf C w 155 155 jL) qfin 155 63 (tX4_gain_38 j62) :=
  aLadd (pc := 63) h dX4_gain_63 (aLadd (pc := 64) h dX4_gain_64 (cSL (pc := 65) h dX4_gain_65 (jGo (pc := 67) h dX4_gain_67 rfl (k62))))
set_option maxRecDepth 20000 in
theorem lX4_gain_38 (a3 : Int32) (a4 : Int32) (s0 : Int64) (s1 : Int64) (s2 : Int64) (m : qM) : tX4_gain_38 (wX4_gain_62 fX4_gain_62) [none, none, none, some (.int a3), some (.int a4), none, none, none] [(.long s0), (.long s1), (.long s2)] m = fX4_gain_38 a3 a4 s0 s1 s2 m := rfl
theorem bX4_gain_38 {C : qCx} {w : qWp} (h : qOk C w RX4 cX4_gain 8 2 155 155) (hm : qMt C (some .long)) (hx : qNx C) : qSnd C w 8 155 (qQf C w 155 155 jL) qfin 155 63 (wX4_gain_38 fX4_gain_38) :=
  qSnd_of (fun lo st m x hr0 => by
    unfold wX4_gain_38 at hr0
    split at hr0
    · exact ⟨_, (qsub_n (qsub_n (qsub_n (qsub_e (qsub_e (qsub_n (qsub_n (qsub_n qsub_nil)))))))), (lX4_gain_38 _ _ _ _ _ _).trans hr0⟩
    · cases hr0) (sX4_gain_38 h hm hx (bX4_gain_62 h hm hx))
noncomputable def tX4_gain_0 (j62 : qT (Int64 × qM)) (j38 : qT (Int64 × qM)) : qT (Int64 × qM) :=
  oLa 0 (oGf 58 8 65 (oLa 0 (oGf 58 2 59 (oLi 1 (oAi 59 40 (oAi 65 15 (oSi 3 (oLi 3 (oC (.int (1 : Int32)) (oLi 2 (o2 (fun x y => x <<< (y &&& 31)) (o2 (· ||| ·) (oSi 4 (oLa 0 (oGf 58 5 62 (oLi 1 (oAi 62 40 (oSi 5 (oLa 0 (oLi 1 (oLi 2 (oCi GX4_pointsIn 3 (oI2l (oSl 6 (oLi 5 (oC (.int (-1 : Int32)) (oCEq (oLl 6 (oC (.long (1048576 : Int64)) (oLa 0 (oGf 58 4 61 (oLi 1 (oAi 61 40 (oEq (oC (.long (0 : Int64)) (j38)) (oC (.long (67108864 : Int64)) (j38))))))))) (oLi 3 (oC (.int (1 : Int32)) (oLi 5 (o2 (fun x y => x <<< (y &&& 31)) (oC (.int (-1 : Int32)) (o2 (· ^^^ ·) (o2 (· &&& ·) (oC (.int (1 : Int32)) (oLi 2 (o2 (fun x y => x <<< (y &&& 31)) (o2 (· ||| ·) (oSi 4 (oLl 6 (oLa 0 (oLi 1 (oLi 5 (oCi GX4_pointsIn 3 (oI2l (oJJ (· - ·) (oSl 6 (j62))))))))))))))))))))))))))))))))))))))))))))))))
set_option maxRecDepth 20000 in
theorem sX4_gain_0 {C : qCx} {w : qWp} (h : qOk C w RX4 cX4_gain 8 2 155 155) (hm : qMt C (some .long)) (hx : qNx C) {j62 : qT (Int64 × qM)} {j38 : qT (Int64 × qM)} (k62 : qSnd C w 8 155 (qQf C w 155 155 jL) qfin 155 97 j62) (k38 : qSnd C w 8 155 (qQf C w 155 155 jL) qfin 155 63 j38) : qSnd C w 8 155 (qQf C w 155 155 jL) qfin 155 0 (tX4_gain_0 j62 j38) :=
  cLa (pc := 0) h dX4_gain_0 rfl (gGf (pc := 1) h dX4_gain_1 ff_X4_31_58 (Nat.le_of_ble_eq_true rfl) (Nat.le_of_ble_eq_true rfl) rfl (cLa (pc := 4) h dX4_gain_4 rfl (gGf (pc := 5) h dX4_gain_5 ff_X4_9_58 (Nat.le_of_ble_eq_true rfl) (Nat.le_of_ble_eq_true rfl) rfl (cLi (pc := 8) h dX4_gain_8 rfl (rAi (pc := 9) h dX4_gain_9 rfl (Nat.le_of_ble_eq_true rfl) (Nat.le_of_ble_eq_true rfl) (rAi (pc := 10) h dX4_gain_10 rfl (Nat.le_of_ble_eq_true rfl) (Nat.le_of_ble_eq_true rfl) (cSi (pc := 11) h dX4_gain_11 rfl (cLi (pc := 12) h dX4_gain_12 rfl (cC (pc := 13) h dX4_gain_13 rfl (cLi (pc := 14) h dX4_gain_14 rfl (aShl (pc := 15) h dX4_gain_15 (aOr (pc := 16) h dX4_gain_16 (cSI (pc := 17) h dX4_gain_17 (cLa (pc := 19) h dX4_gain_19 rfl (gGf (pc := 20) h dX4_gain_20 ff_X4_22_58 (Nat.le_of_ble_eq_true rfl) (Nat.le_of_ble_eq_true rfl) rfl (cLi (pc := 23) h dX4_gain_23 rfl (rAi (pc := 24) h dX4_gain_24 rfl (Nat.le_of_ble_eq_true rfl) (Nat.le_of_ble_eq_true rfl) (cSI (pc := 25) h dX4_gain_25 (cLa (pc := 27) h dX4_gain_27 rfl (cLi (pc := 28) h dX4_gain_28 rfl (cLi (pc := 29) h dX4_gain_29 rfl (kCi (pc := 30) h (kd_X4_75 h dX4_gain_30) spX4_pointsIn (by decide) (by decide) (by decide) (by decide) (aI2l (pc := 33) h dX4_gain_33 (cSL (pc := 34) h dX4_gain_34 (cLI (pc := 36) h dX4_gain_36 (cC (pc := 38) h dX4_gain_38 rfl (jCNe (pc := 39) h dX4_gain_39 rfl (cLi (pc := 70) h dX4_gain_70 rfl (cC (pc := 71) h dX4_gain_71 rfl (cLI (pc := 72) h dX4_gain_72 (aShl (pc := 74) h dX4_gain_74 (cC (pc := 75) h dX4_gain_75 rfl (aXor (pc := 76) h dX4_gain_76 (aAnd (pc := 77) h dX4_gain_77 (cC (pc := 78) h dX4_gain_78 rfl (cLi (pc := 79) h dX4_gain_79 rfl (aShl (pc := 80) h dX4_gain_80 (aOr (pc := 81) h dX4_gain_81 (cSI (pc := 82) h dX4_gain_82 (cLL (pc := 84) h dX4_gain_84 (cLa (pc := 86) h dX4_gain_86 rfl (cLi (pc := 87) h dX4_gain_87 rfl (cLI (pc := 88) h dX4_gain_88 (kCi (pc := 90) h (kd_X4_75 h dX4_gain_90) spX4_pointsIn (by decide) (by decide) (by decide) (by decide) (aI2l (pc := 93) h dX4_gain_93 (aLsub (pc := 94) h dX4_gain_94 (cSL (pc := 95) h dX4_gain_95 (k62))))))))))))))))))))) (cLL (pc := 42) h dX4_gain_42 (cKJ (pc := 44) h dX4_gain_44 fc_X4_136 (cLa (pc := 47) h dX4_gain_47 rfl (gGf (pc := 48) h dX4_gain_48 ff_X4_18_58 (Nat.le_of_ble_eq_true rfl) (Nat.le_of_ble_eq_true rfl) rfl (cLi (pc := 51) h dX4_gain_51 rfl (rAz (pc := 52) h dX4_gain_52 rfl (Nat.le_of_ble_eq_true rfl) (Nat.le_of_ble_eq_true rfl) (jEq (pc := 53) h dX4_gain_53 rfl (cJ (pc := 62) h dX4_gain_62 rfl (k38)) (cKJ (pc := 56) h dX4_gain_56 fc_X4_134 (jGo (pc := 59) h dX4_gain_59 rfl (k38)))))))))))))))))))))))))))))))))))))
set_option maxRecDepth 20000 in
theorem lX4_gain_0 (a1 : Int32) (a2 : Int32) (m : qM) : tX4_gain_0 (wX4_gain_62 fX4_gain_62) (wX4_gain_38 fX4_gain_38) [some (.ref 58), some (.int a1), some (.int a2), none, none, none, none, none] [] m = fX4_gain_0 a1 a2 m := rfl
noncomputable def GX4_gain : qG Int64 := fun av m => match av with
  | [.ref 58, .int a1, .int a2] => fX4_gain a1 a2 m
  | _ => none
theorem spX4_gain : qSpL yX4_gain (.code yX4_gain cX4_gain 8 (some .long)) 2 qfin 155 155 1 GX4_gain := by
  intro av m x m' hG
  unfold GX4_gain at hG
  split at hG
  · rename_i a1 a2
    rw [fX4_gain_d] at hG
    exact ⟨qmeet (J := jL) (r := (x, m')) (av := [.ref 58, .int a1, .int a2]) (by decide +kernel) (Nat.le_of_ble_eq_true rfl) (fun C w h hm hx hn => sX4_gain_0 h hm hx (bX4_gain_62 h hm hx) (bX4_gain_38 h hm hx)) ((lX4_gain_0 _ _ _).trans hG) (Nat.le_of_ble_eq_true rfl), Or.inl ⟨58, _, 4, _, _, rfl, by decide, rfl, qCk_4, rfl⟩⟩
  · cases hG
theorem dJ9_max_f86c9_0 : decode cJ9_max_f86c9 0 = .ok (.lload_n 0, 1) := by decide +kernel
theorem dJ9_max_f86c9_1 : decode cJ9_max_f86c9 1 = .ok (.lload_n 2, 1) := by decide +kernel
theorem dJ9_max_f86c9_2 : decode cJ9_max_f86c9 2 = .ok (.lcmp, 1) := by decide +kernel
theorem dJ9_max_f86c9_3 : decode cJ9_max_f86c9 3 = .ok (.ifCond .lt 7, 3) := by decide +kernel
theorem dJ9_max_f86c9_6 : decode cJ9_max_f86c9 6 = .ok (.lload_n 0, 1) := by decide +kernel
theorem dJ9_max_f86c9_7 : decode cJ9_max_f86c9 7 = .ok (.goto 4, 3) := by decide +kernel
theorem dJ9_max_f86c9_10 : decode cJ9_max_f86c9 10 = .ok (.lload_n 2, 1) := by decide +kernel
theorem dJ9_max_f86c9_11 : decode cJ9_max_f86c9 11 = .ok (.lreturn, 1) := by decide +kernel
noncomputable def tJ9_max_f86c9_7 : qT (Int64 × qM) :=
  eL
noncomputable def wJ9_max_f86c9_7 (k : Int64 → qM → Option (Int64 × qM)) : qT (Int64 × qM) := fun lo st m => match lo, st with
  | [_, _, _, _], [.long s0] => k s0 m
  | _, _ => none
set_option maxRecDepth 20000 in
theorem sJ9_max_f86c9_7 {C : qCx} {w : qWp} (h : qOk C w RJ9 cJ9_max_f86c9 4 0 155 155) (hm : qMt C (some .long)) (hx : qNx C) : qSnd C w 4 155 (qQf C w 155 155 jL) qfin 155 11 (tJ9_max_f86c9_7) :=
  zL (pc := 11) h hm (Nat.le_refl _) dJ9_max_f86c9_11
set_option maxRecDepth 20000 in
theorem lJ9_max_f86c9_7 (s0 : Int64) (m : qM) : tJ9_max_f86c9_7 [none, none, none, none] [(.long s0)] m = fJ9_max_f86c9_7 s0 m := rfl
theorem bJ9_max_f86c9_7 {C : qCx} {w : qWp} (h : qOk C w RJ9 cJ9_max_f86c9 4 0 155 155) (hm : qMt C (some .long)) (hx : qNx C) : qSnd C w 4 155 (qQf C w 155 155 jL) qfin 155 11 (wJ9_max_f86c9_7 fJ9_max_f86c9_7) :=
  qSnd_of (fun lo st m x hr0 => by
    unfold wJ9_max_f86c9_7 at hr0
    split at hr0
    · exact ⟨_, (qsub_n (qsub_n (qsub_n (qsub_n qsub_nil)))), (lJ9_max_f86c9_7 _ _).trans hr0⟩
    · cases hr0) (sJ9_max_f86c9_7 h hm hx)
noncomputable def tJ9_max_f86c9_0 (j7 : qT (Int64 × qM)) : qT (Int64 × qM) :=
  oLl 0 (oLl 2 (oLcmp (oLt (oLl 2 (j7)) (oLl 0 (j7)))))
set_option maxRecDepth 20000 in
theorem sJ9_max_f86c9_0 {C : qCx} {w : qWp} (h : qOk C w RJ9 cJ9_max_f86c9 4 0 155 155) (hm : qMt C (some .long)) (hx : qNx C) {j7 : qT (Int64 × qM)} (k7 : qSnd C w 4 155 (qQf C w 155 155 jL) qfin 155 11 j7) : qSnd C w 4 155 (qQf C w 155 155 jL) qfin 155 0 (tJ9_max_f86c9_0 j7) :=
  cLl (pc := 0) h dJ9_max_f86c9_0 rfl (cLl (pc := 1) h dJ9_max_f86c9_1 rfl (aLcmp (pc := 2) h dJ9_max_f86c9_2 (jLt (pc := 3) h dJ9_max_f86c9_3 rfl (cLl (pc := 10) h dJ9_max_f86c9_10 rfl (k7)) (cLl (pc := 6) h dJ9_max_f86c9_6 rfl (jGo (pc := 7) h dJ9_max_f86c9_7 rfl (k7))))))
set_option maxRecDepth 20000 in
theorem lJ9_max_f86c9_0 (a0 : Int64) (a1 : Int64) (m : qM) : tJ9_max_f86c9_0 (wJ9_max_f86c9_7 fJ9_max_f86c9_7) [some (.long a0), none, some (.long a1), none] [] m = fJ9_max_f86c9_0 a0 a1 m := rfl
noncomputable def GJ9_max_f86c9 : qG Int64 := fun av m => match av with
  | [.long a0, .long a1] => fJ9_max_f86c9 a0 a1 m
  | _ => none
theorem spJ9_max_f86c9 : qSpL yJ9_max_f86c9 (.code yJ9_max_f86c9 cJ9_max_f86c9 4 (some .long)) 0 qfin 155 155 0 GJ9_max_f86c9 := by
  intro av m x m' hG
  unfold GJ9_max_f86c9 at hG
  split at hG
  · rename_i a0 a1
    rw [fJ9_max_f86c9_d] at hG
    exact ⟨qmeet (J := jL) (r := (x, m')) (av := [.long a0, .long a1]) (by decide +kernel) (Nat.le_of_ble_eq_true rfl) (fun C w h hm hx hn => sJ9_max_f86c9_0 h hm hx (bJ9_max_f86c9_7 h hm hx)) ((lJ9_max_f86c9_0 _ _ _).trans hG) (Nat.le_of_ble_eq_true rfl), trivial⟩
  · cases hG

