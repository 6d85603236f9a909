/-! methods (by program): X0_hopeOf, X4_worth, X4_take, X0_tryFrom, X0_layPicked, X4_slotOf, X0_layPickedAnew, X0_openIfNotLaid, X0_keepChange, X0_seekPuts, X0_maySwap -/
theorem im_X4_greatestGain : Jvm.Cond.instanceMethod yX4_greatestGain ∈ qTw := qm4 (List.mem_of_getElem? (i := 197) (by decide +kernel)) (by decide +kernel)
theorem se_X4_greatestGain : Jvm.Cond.selects yX4_greatestGain.cls yX4_greatestGain yX4_greatestGain ∈ qTw := qm4 (List.mem_of_getElem? (i := 198) (by decide +kernel)) (by decide +kernel)
theorem co_X4_greatestGain : Jvm.Cond.code yX4_greatestGain cX4_greatestGain 2 (some .long) ∈ qTw := qm4 (List.mem_of_getElem? (i := 199) (by decide +kernel)) (by decide +kernel)
theorem yk_X4_greatestGain : qYk yX4_greatestGain 1 := ⟨⟨by decide +kernel, by decide +kernel⟩, by decide +kernel⟩
theorem ml_X0_123 : Jvm.Cond.methodLink RX0 123 yX4_greatestGain ∈ qTw := qm4 (List.mem_of_getElem? (i := 196) (by decide +kernel)) (by decide +kernel)
theorem kd_X0_123 {C : qCx} {w : qWp} {cc : ByteArray} {nL dp n0 n1 pc : Nat} (h : qOk C w RX0 cc nL dp n0 n1) (d : decode cc pc = .ok (.invokevirtual 123, 3)) : qCallOk C w nL dp n0 n1 pc 2 1 yX4_greatestGain (.code yX4_greatestGain cX4_greatestGain 2 (some .long)) := kindV h d ml_X0_123 im_X4_greatestGain se_X4_greatestGain in_ParentEve_Plan co_X4_greatestGain yk_X4_greatestGain (by decide)
theorem ml_X0_126 : Jvm.Cond.methodLinkNest RX0 126 yX11_has "ParentEve" ∈ qTw := qm4 (List.mem_of_getElem? (i := 203) (by decide +kernel)) (by decide +kernel)
theorem kd_X0_126 {C : qCx} {w : qWp} {cc : ByteArray} {nL dp n0 n1 pc : Nat} (h : qOk C w RX0 cc nL dp n0 n1) (d : decode cc pc = .ok (.invokestatic 126, 3)) : qCallOk C w nL dp n0 n1 pc 2 0 yX11_has (.code yX11_has cX11_has 2 (some .boolean)) := kindSN h d ml_X0_126 im_X11_has in_ParentEve co_X11_has yk_X11_has (by decide)
theorem im_X4_gain : Jvm.Cond.instanceMethod yX4_gain ∈ qTw := qm4 (List.mem_of_getElem? (i := 205) (by decide +kernel)) (by decide +kernel)
theorem se_X4_gain : Jvm.Cond.selects yX4_gain.cls yX4_gain yX4_gain ∈ qTw := qm4 (List.mem_of_getElem? (i := 206) (by decide +kernel)) (by decide +kernel)
theorem co_X4_gain : Jvm.Cond.code yX4_gain cX4_gain 8 (some .long) ∈ qTw := qm4 (List.mem_of_getElem? (i := 207) (by decide +kernel)) (by decide +kernel)
theorem yk_X4_gain : qYk yX4_gain 2 := ⟨⟨by decide +kernel, by decide +kernel⟩, by decide +kernel⟩
theorem ml_X0_130 : Jvm.Cond.methodLink RX0 130 yX4_gain ∈ qTw := qm4 (List.mem_of_getElem? (i := 204) (by decide +kernel)) (by decide +kernel)
theorem kd_X0_130 {C : qCx} {w : qWp} {cc : ByteArray} {nL dp n0 n1 pc : Nat} (h : qOk C w RX0 cc nL dp n0 n1) (d : decode cc pc = .ok (.invokevirtual 130, 3)) : qCallOk C w nL dp n0 n1 pc 3 1 yX4_gain (.code yX4_gain cX4_gain 8 (some .long)) := kindV h d ml_X0_130 im_X4_gain se_X4_gain in_ParentEve_Plan co_X4_gain yk_X4_gain (by decide)
theorem im_J9_max_f86c9 : Jvm.Cond.static yJ9_max_f86c9 ∈ qTw := qm4 (List.mem_of_getElem? (i := 209) (by decide +kernel)) (by decide +kernel)
theorem co_J9_max_f86c9 : Jvm.Cond.code yJ9_max_f86c9 cJ9_max_f86c9 4 (some .long) ∈ qTw := qm4 (List.mem_of_getElem? (i := 210) (by decide +kernel)) (by decide +kernel)
theorem yk_J9_max_f86c9 : qYk yJ9_max_f86c9 2 := ⟨⟨by decide +kernel, by decide +kernel⟩, by decide +kernel⟩
theorem ml_X0_134 : Jvm.Cond.methodLink RX0 134 yJ9_max_f86c9 ∈ qTw := qm4 (List.mem_of_getElem? (i := 208) (by decide +kernel)) (by decide +kernel)
theorem kd_X0_134 {C : qCx} {w : qWp} {cc : ByteArray} {nL dp n0 n1 pc : Nat} (h : qOk C w RX0 cc nL dp n0 n1) (d : decode cc pc = .ok (.invokestatic 134, 3)) : qCallOk C w nL dp n0 n1 pc 2 0 yJ9_max_f86c9 (.code yJ9_max_f86c9 cJ9_max_f86c9 4 (some .long)) := kindS h d ml_X0_134 im_J9_max_f86c9 in_java_lang_Math co_J9_max_f86c9 yk_J9_max_f86c9 (by decide)
theorem dX0_hopeOf_0 : decode cX0_hopeOf 0 = .ok (.aload_n 0, 1) := by decide +kernel
theorem dX0_hopeOf_1 : decode cX0_hopeOf 1 = .ok (.getfield 9, 3) := by decide +kernel
theorem dX0_hopeOf_4 : decode cX0_hopeOf 4 = .ok (.iload_n 1, 1) := by decide +kernel
theorem dX0_hopeOf_5 : decode cX0_hopeOf 5 = .ok (.iaload, 1) := by decide +kernel
theorem dX0_hopeOf_6 : decode cX0_hopeOf 6 = .ok (.istore_n 2, 1) := by decide +kernel
theorem dX0_hopeOf_7 : decode cX0_hopeOf 7 = .ok (.iconst 0, 1) := by decide +kernel
theorem dX0_hopeOf_8 : decode cX0_hopeOf 8 = .ok (.istore_n 3, 1) := by decide +kernel
theorem dX0_hopeOf_9 : decode cX0_hopeOf 9 = .ok (.iload_n 3, 1) := by decide +kernel
theorem dX0_hopeOf_10 : decode cX0_hopeOf 10 = .ok (.aload_n 0, 1) := by decide +kernel
theorem dX0_hopeOf_11 : decode cX0_hopeOf 11 = .ok (.getfield 28, 3) := by decide +kernel
theorem dX0_hopeOf_14 : decode cX0_hopeOf 14 = .ok (.if_icmp .ge 47, 3) := by decide +kernel
theorem dX0_hopeOf_17 : decode cX0_hopeOf 17 = .ok (.iload_n 3, 1) := by decide +kernel
theorem dX0_hopeOf_18 : decode cX0_hopeOf 18 = .ok (.iload_n 1, 1) := by decide +kernel
theorem dX0_hopeOf_19 : decode cX0_hopeOf 19 = .ok (.if_icmp .eq 36, 3) := by decide +kernel
theorem dX0_hopeOf_22 : decode cX0_hopeOf 22 = .ok (.aload_n 0, 1) := by decide +kernel
theorem dX0_hopeOf_23 : decode cX0_hopeOf 23 = .ok (.getfield 55, 3) := by decide +kernel
theorem dX0_hopeOf_26 : decode cX0_hopeOf 26 = .ok (.aload_n 0, 1) := by decide +kernel
theorem dX0_hopeOf_27 : decode cX0_hopeOf 27 = .ok (.getfield 9, 3) := by decide +kernel
theorem dX0_hopeOf_30 : decode cX0_hopeOf 30 = .ok (.iload_n 3, 1) := by decide +kernel
theorem dX0_hopeOf_31 : decode cX0_hopeOf 31 = .ok (.iaload, 1) := by decide +kernel
theorem dX0_hopeOf_32 : decode cX0_hopeOf 32 = .ok (.invokevirtual 76, 3) := by decide +kernel
theorem dX0_hopeOf_35 : decode cX0_hopeOf 35 = .ok (.aload_n 0, 1) := by decide +kernel
theorem dX0_hopeOf_36 : decode cX0_hopeOf 36 = .ok (.getfield 55, 3) := by decide +kernel
theorem dX0_hopeOf_39 : decode cX0_hopeOf 39 = .ok (.iload_n 2, 1) := by decide +kernel
theorem dX0_hopeOf_40 : decode cX0_hopeOf 40 = .ok (.invokevirtual 76, 3) := by decide +kernel
theorem dX0_hopeOf_43 : decode cX0_hopeOf 43 = .ok (.if_icmp .ne 12, 3) := by decide +kernel
theorem dX0_hopeOf_46 : decode cX0_hopeOf 46 = .ok (.aload_n 0, 1) := by decide +kernel
theorem dX0_hopeOf_47 : decode cX0_hopeOf 47 = .ok (.getfield 55, 3) := by decide +kernel
theorem dX0_hopeOf_50 : decode cX0_hopeOf 50 = .ok (.iload_n 2, 1) := by decide +kernel
theorem dX0_hopeOf_51 : decode cX0_hopeOf 51 = .ok (.invokevirtual 123, 3) := by decide +kernel
theorem dX0_hopeOf_54 : decode cX0_hopeOf 54 = .ok (.lreturn, 1) := by decide +kernel
theorem dX0_hopeOf_55 : decode cX0_hopeOf 55 = .ok (.iinc 3 1, 3) := by decide +kernel
theorem dX0_hopeOf_58 : decode cX0_hopeOf 58 = .ok (.goto (-49), 3) := by decide +kernel
theorem dX0_hopeOf_61 : decode cX0_hopeOf 61 = .ok (.lconst 0, 1) := by decide +kernel
theorem dX0_hopeOf_62 : decode cX0_hopeOf 62 = .ok (.lstore_n 3, 1) := by decide +kernel
theorem dX0_hopeOf_63 : decode cX0_hopeOf 63 = .ok (.aload_n 0, 1) := by decide +kernel
theorem dX0_hopeOf_64 : decode cX0_hopeOf 64 = .ok (.getfield 55, 3) := by decide +kernel
theorem dX0_hopeOf_67 : decode cX0_hopeOf 67 = .ok (.iload_n 2, 1) := by decide +kernel
theorem dX0_hopeOf_68 : decode cX0_hopeOf 68 = .ok (.invokevirtual 92, 3) := by decide +kernel
theorem dX0_hopeOf_71 : decode cX0_hopeOf 71 = .ok (.aload_n 0, 1) := by decide +kernel
theorem dX0_hopeOf_72 : decode cX0_hopeOf 72 = .ok (.getfield 32, 3) := by decide +kernel
theorem dX0_hopeOf_75 : decode cX0_hopeOf 75 = .ok (.iand, 1) := by decide +kernel
theorem dX0_hopeOf_76 : decode cX0_hopeOf 76 = .ok (.istore 5, 2) := by decide +kernel
theorem dX0_hopeOf_78 : decode cX0_hopeOf 78 = .ok (.iconst 0, 1) := by decide +kernel
theorem dX0_hopeOf_79 : decode cX0_hopeOf 79 = .ok (.istore 6, 2) := by decide +kernel
theorem dX0_hopeOf_81 : decode cX0_hopeOf 81 = .ok (.iload 6, 2) := by decide +kernel
theorem dX0_hopeOf_83 : decode cX0_hopeOf 83 = .ok (.bipush 20, 2) := by decide +kernel
theorem dX0_hopeOf_85 : decode cX0_hopeOf 85 = .ok (.if_icmp .ge 34, 3) := by decide +kernel
theorem dX0_hopeOf_88 : decode cX0_hopeOf 88 = .ok (.iload 5, 2) := by decide +kernel
theorem dX0_hopeOf_90 : decode cX0_hopeOf 90 = .ok (.iload 6, 2) := by decide +kernel
theorem dX0_hopeOf_92 : decode cX0_hopeOf 92 = .ok (.invokestatic 126, 3) := by decide +kernel
theorem dX0_hopeOf_95 : decode cX0_hopeOf 95 = .ok (.ifCond .eq 18, 3) := by decide +kernel
theorem dX0_hopeOf_98 : decode cX0_hopeOf 98 = .ok (.lload_n 3, 1) := by decide +kernel
theorem dX0_hopeOf_99 : decode cX0_hopeOf 99 = .ok (.aload_n 0, 1) := by decide +kernel
theorem dX0_hopeOf_100 : decode cX0_hopeOf 100 = .ok (.getfield 55, 3) := by decide +kernel
theorem dX0_hopeOf_103 : decode cX0_hopeOf 103 = .ok (.iload_n 2, 1) := by decide +kernel
theorem dX0_hopeOf_104 : decode cX0_hopeOf 104 = .ok (.iload 6, 2) := by decide +kernel
theorem dX0_hopeOf_106 : decode cX0_hopeOf 106 = .ok (.invokevirtual 130, 3) := by decide +kernel
theorem dX0_hopeOf_109 : decode cX0_hopeOf 109 = .ok (.invokestatic 134, 3) := by decide +kernel
theorem dX0_hopeOf_112 : decode cX0_hopeOf 112 = .ok (.lstore_n 3, 1) := by decide +kernel
theorem dX0_hopeOf_113 : decode cX0_hopeOf 113 = .ok (.iinc 6 1, 3) := by decide +kernel
theorem dX0_hopeOf_116 : decode cX0_hopeOf 116 = .ok (.goto (-35), 3) := by decide +kernel
theorem dX0_hopeOf_119 : decode cX0_hopeOf 119 = .ok (.lload_n 3, 1) := by decide +kernel
theorem dX0_hopeOf_120 : decode cX0_hopeOf 120 = .ok (.lreturn, 1) := by decide +kernel
noncomputable def tX0_hopeOf_31 (j7 : qT (Int64 × qM)) : qT (Int64 × qM) :=
  oInc 3 (1 : Int32) (j7)
noncomputable def wX0_hopeOf_31 (k : Int32 → Int32 → Int32 → qM → Option (Int64 × qM)) : qT (Int64 × qM) := fun lo st m => match lo, st with
  | [some (.ref 68), some (.int a1), some (.int a2), some (.int a3), _, _, _], [] => k a1 a2 a3 m
  | _, _ => none
noncomputable def wX0_hopeOf_7 (k : Int32 → Int32 → Int32 → qM → Option (Int64 × qM)) : qT (Int64 × qM) := fun lo st m => match lo, st with
  | [some (.ref 68), some (.int a1), some (.int a2), some (.int a3), _, _, _], [] => k a1 a2 a3 m
  | _, _ => none
set_option maxRecDepth 20000 in
theorem sX0_hopeOf_31 {C : qCx} {w : qWp} (h : qOk C w RX0 cX0_hopeOf 7 4 155 155) (hm : qMt C (some .long)) (hx : qNx C) {j7 : qT (Int64 × qM)} (k7 : qSnd C w 7 155 (qQf C w 155 155 jL) qfin 155 9 j7) : qSnd C w 7 155 (qQf C w 155 155 jL) qfin 155 55 (tX0_hopeOf_31 j7) :=
  cInc (pc := 55) h dX0_hopeOf_55 rfl (jGo (pc := 58) h dX0_hopeOf_58 rfl (k7))
set_option maxRecDepth 20000 in
theorem lX0_hopeOf_31 (k7 : Int32 → Int32 → Int32 → qM → Option (Int64 × qM)) (a1 : Int32) (a2 : Int32) (a3 : Int32) (m : qM) : tX0_hopeOf_31 (wX0_hopeOf_7 k7) [some (.ref 68), some (.int a1), some (.int a2), some (.int a3), none, none, none] [] m = fX0_hopeOf_31 k7 a1 a2 a3 m := rfl
theorem bX0_hopeOf_31 {C : qCx} {w : qWp} (h : qOk C w RX0 cX0_hopeOf 7 4 155 155) (hm : qMt C (some .long)) (hx : qNx C) {k7 : Int32 → Int32 → Int32 → qM → Option (Int64 × qM)} (h7 : qSnd C w 7 155 (qQf C w 155 155 jL) qfin 155 9 (wX0_hopeOf_7 k7)) : qSnd C w 7 155 (qQf C w 155 155 jL) qfin 155 55 (wX0_hopeOf_31 (fX0_hopeOf_31 k7)) :=
  qSnd_of (fun lo st m x hr0 => by
    unfold wX0_hopeOf_31 at hr0
    split at hr0
    · exact ⟨_, (qsub_e (qsub_e (qsub_e (qsub_e (qsub_n (qsub_n (qsub_n qsub_nil))))))), (lX0_hopeOf_31 _ _ _ _ _).trans hr0⟩
    · cases hr0) (sX0_hopeOf_31 h hm hx h7)
noncomputable def tX0_hopeOf_7 (j45 : qT (Int64 × qM)) (j31 : qT (Int64 × qM)) : qT (Int64 × qM) :=
  oLi 3 (oLa 0 (oGi 68 7 (oCGe (oC (.long (0 : Int64)) (oSl 3 (oLa 0 (oGf 68 1 58 (oLi 2 (oCi GX4_openSlots 2 (oLa 0 (oGi 68 8 (o2 (· &&& ·) (oSi 5 (oC (.int (0 : Int32)) (oSi 6 (j45))))))))))))) (oLi 3 (oLi 1 (oCEq (j31) (oLa 0 (oGf 68 1 58 (oLa 0 (oGf 68 2 69 (oLi 3 (oAi 69 4 (oCi GX4_familyOf 2 (oLa 0 (oGf 68 1 58 (oLi 2 (oCi GX4_familyOf 2 (oCEq (oLa 0 (oGf 68 1 58 (oLi 2 (oCl GX4_greatestGain 2 (eL))))) (j31)))))))))))))))))))
noncomputable def wX0_hopeOf_45 (k : Int32 → Int64 → Int32 → Int32 → qM → Option (Int64 × qM)) : qT (Int64 × qM) := fun lo st m => match lo, st with
  | [some (.ref 68), _, some (.int a2), some (.long a3), _, some (.int a5), some (.int a6)], [] => k a2 a3 a5 a6 m
  | _, _ => none
set_option maxRecDepth 20000 in
theorem sX0_hopeOf_7 {C : qCx} {w : qWp} (h : qOk C w RX0 cX0_hopeOf 7 4 155 155) (hm : qMt C (some .long)) (hx : qNx C) {j45 : qT (Int64 × qM)} {j31 : qT (Int64 × qM)} (k45 : qSnd C w 7 155 (qQf C w 155 155 jL) qfin 155 81 j45) (k31 : qSnd C w 7 155 (qQf C w 155 155 jL) qfin 155 55 j31) : qSnd C w 7 155 (qQf C w 155 155 jL) qfin 155 9 (tX0_hopeOf_7 j45 j31) :=
  cLi (pc := 9) h dX0_hopeOf_9 rfl (cLa (pc := 10) h dX0_hopeOf_10 rfl (gGi (pc := 11) h dX0_hopeOf_11 ff_X0_28_68 (Nat.le_of_ble_eq_true rfl) (Nat.le_of_ble_eq_true rfl) (jCGe (pc := 14) h dX0_hopeOf_14 rfl (cJ (pc := 61) h dX0_hopeOf_61 rfl (cSl (pc := 62) h dX0_hopeOf_62 rfl (cLa (pc := 63) h dX0_hopeOf_63 rfl (gGf (pc := 64) h dX0_hopeOf_64 ff_X0_55_68 (Nat.le_of_ble_eq_true rfl) (Nat.le_of_ble_eq_true rfl) rfl (cLi (pc := 67) h dX0_hopeOf_67 rfl (kCi (pc := 68) h (kd_X0_92 h dX0_hopeOf_68) spX4_openSlots (by decide) (by decide) (by decide) (by decide) (cLa (pc := 71) h dX0_hopeOf_71 rfl (gGi (pc := 72) h dX0_hopeOf_72 ff_X0_32_68 (Nat.le_of_ble_eq_true rfl) (Nat.le_of_ble_eq_true rfl) (aAnd (pc := 75) h dX0_hopeOf_75 (cSI (pc := 76) h dX0_hopeOf_76 (cC (pc := 78) h dX0_hopeOf_78 rfl (cSI (pc := 79) h dX0_hopeOf_79 (k45))))))))))))) (cLi (pc := 17) h dX0_hopeOf_17 rfl (cLi (pc := 18) h dX0_hopeOf_18 rfl (jCEq (pc := 19) h dX0_hopeOf_19 rfl (k31) (cLa (pc := 22) h dX0_hopeOf_22 rfl (gGf (pc := 23) h dX0_hopeOf_23 ff_X0_55_68 (Nat.le_of_ble_eq_true rfl) (Nat.le_of_ble_eq_true rfl) rfl (cLa (pc := 26) h dX0_hopeOf_26 rfl (gGf (pc := 27) h dX0_hopeOf_27 ff_X0_9_68 (Nat.le_of_ble_eq_true rfl) (Nat.le_of_ble_eq_true rfl) rfl (cLi (pc := 30) h dX0_hopeOf_30 rfl (rAi (pc := 31) h dX0_hopeOf_31 rfl (Nat.le_of_ble_eq_true rfl) (Nat.le_of_ble_eq_true rfl) (kCi (pc := 32) h (kd_X0_76 h dX0_hopeOf_32) spX4_familyOf (by decide) (by decide) (by decide) (by decide) (cLa (pc := 35) h dX0_hopeOf_35 rfl (gGf (pc := 36) h dX0_hopeOf_36 ff_X0_55_68 (Nat.le_of_ble_eq_true rfl) (Nat.le_of_ble_eq_true rfl) rfl (cLi (pc := 39) h dX0_hopeOf_39 rfl (kCi (pc := 40) h (kd_X0_76 h dX0_hopeOf_40) spX4_familyOf (by decide) (by decide) (by decide) (by decide) (jCNe (pc := 43) h dX0_hopeOf_43 rfl (k31) (cLa (pc := 46) h dX0_hopeOf_46 rfl (gGf (pc := 47) h dX0_hopeOf_47 ff_X0_55_68 (Nat.le_of_ble_eq_true rfl) (Nat.le_of_ble_eq_true rfl) rfl (cLi (pc := 50) h dX0_hopeOf_50 rfl (kCl (pc := 51) h (kd_X0_123 h dX0_hopeOf_51) spX4_greatestGain (by decide) (by decide) (by decide) (by decide) (zL (pc := 54) h hm (Nat.le_refl _) dX0_hopeOf_54)))))))))))))))))))))))
set_option maxRecDepth 20000 in
theorem lX0_hopeOf_7 (k45 : Int32 → Int64 → Int32 → Int32 → qM → Option (Int64 × qM)) (n : Nat) (a1 : Int32) (a2 : Int32) (a3 : Int32) (m : qM) : tX0_hopeOf_7 (wX0_hopeOf_45 k45) (wX0_hopeOf_31 (fX0_hopeOf_31 (fX0_hopeOf_7 k45 n))) [some (.ref 68), some (.int a1), some (.int a2), some (.int a3), none, none, none] [] m = fX0_hopeOf_7 k45 (n + 1) a1 a2 a3 m := rfl
theorem bX0_hopeOf_7 {C : qCx} {w : qWp} (h : qOk C w RX0 cX0_hopeOf 7 4 155 155) (hm : qMt C (some .long)) (hx : qNx C) {k45 : Int32 → Int64 → Int32 → Int32 → qM → Option (Int64 × qM)} (h45 : qSnd C w 7 155 (qQf C w 155 155 jL) qfin 155 81 (wX0_hopeOf_45 k45)) : ∀ n : Nat, qSnd C w 7 155 (qQf C w 155 155 jL) qfin 155 9 (wX0_hopeOf_7 (fX0_hopeOf_7 k45 n))
  | 0 => qSnd_of0 (fun lo st m x hr0 => by
    unfold wX0_hopeOf_7 at hr0
    split at hr0
    · cases hr0
    · cases hr0)
  | n + 1 => by
    have ih := bX0_hopeOf_7 h hm hx h45 n
    exact qSnd_of (fun lo st m x hr0 => by
    unfold wX0_hopeOf_7 at hr0
    split at hr0
    · exact ⟨_, (qsub_e (qsub_e (qsub_e (qsub_e (qsub_n (qsub_n (qsub_n qsub_nil))))))), (lX0_hopeOf_7 _ n _ _ _ _).trans hr0⟩
    · cases hr0) (sX0_hopeOf_7 h hm hx h45 (bX0_hopeOf_31 h hm hx ih))
noncomputable def tX0_hopeOf_60 (j45 : qT (Int64 × qM)) : qT (Int64 × qM) :=
  oInc 6 (1 : Int32) (j45)
noncomputable def wX0_hopeOf_60 (k : Int32 → Int64 → Int32 → Int32 → qM → Option (Int64 × qM)) : qT (Int64 × qM) := fun lo st m => match lo, st with
  | [some (.ref 68), _, some (.int a2), some (.long a3), _, some (.int a5), some (.int a6)], [] => k a2 a3 a5 a6 m
  | _, _ => none
set_option maxRecDepth 20000 in
theorem sX0_hopeOf_60 {C : qCx} {w : qWp} (h : qOk C w RX0 cX0_hopeOf 7 4 155 155) (hm : qMt C (some .long)) (hx : qNx C) {j45 : qT (Int64 × qM)} (k45 : qSnd C w 7 155 (qQf C w 155 155 jL) qfin 155 81 j45) : qSnd C w 7 155 (qQf C w 155 155 jL) qfin 155 113 (tX0_hopeOf_60 j45) :=
  cInc (pc := 113) h dX0_hopeOf_113 rfl (jGo (pc := 116) h dX0_hopeOf_116 rfl (k45))
set_option maxRecDepth 20000 in
theorem lX0_hopeOf_60 (k45 : Int32 → Int64 → Int32 → Int32 → qM → Option (Int64 × qM)) (a2 : Int32) (a3 : Int64) (a5 : Int32) (a6 : Int32) (m : qM) : tX0_hopeOf_60 (wX0_hopeOf_45 k45) [some (.ref 68), none, some (.int a2), some (.long a3), none, some (.int a5), some (.int a6)] [] m = fX0_hopeOf_60 k45 a2 a3 a5 a6 m := rfl
theorem bX0_hopeOf_60 {C : qCx} {w : qWp} (h : qOk C w RX0 cX0_hopeOf 7 4 155 155) (hm : qMt C (some .long)) (hx : qNx C) {k45 : Int32 → Int64 → Int32 → Int32 → qM → Option (Int64 × qM)} (h45 : qSnd C w 7 155 (qQf C w 155 155 jL) qfin 155 81 (wX0_hopeOf_45 k45)) : qSnd C w 7 155 (qQf C w 155 155 jL) qfin 155 113 (wX0_hopeOf_60 (fX0_hopeOf_60 k45)) :=
  qSnd_of (fun lo st m x hr0 => by
    unfold wX0_hopeOf_60 at hr0
    split at hr0
    · exact ⟨_, (qsub_e (qsub_n (qsub_e (qsub_e (qsub_n (qsub_e (qsub_e qsub_nil))))))), (lX0_hopeOf_60 _ _ _ _ _ _).trans hr0⟩
    · cases hr0) (sX0_hopeOf_60 h hm hx h45)
noncomputable def tX0_hopeOf_45 (j60 : qT (Int64 × qM)) : qT (Int64 × qM) :=
  oLi 6 (oC (.int (20 : Int32)) (oCGe (oLl 3 (eL)) (oLi 5 (oLi 6 (oCi GX11_has 2 (oEq (j60) (oLl 3 (oLa 0 (oGf 68 1 58 (oLi 2 (oLi 6 (oCl GX4_gain 3 (oCl GJ9_max_f86c9 2 (oSl 3 (j60)))))))))))))))
set_option maxRecDepth 20000 in
theorem sX0_hopeOf_45 {C : qCx} {w : qWp} (h : qOk C w RX0 cX0_hopeOf 7 4 155 155) (hm : qMt C (some .long)) (hx : qNx C) {j60 : qT (Int64 × qM)} (k60 : qSnd C w 7 155 (qQf C w 155 155 jL) qfin 155 113 j60) : qSnd C w 7 155 (qQf C w 155 155 jL) qfin 155 81 (tX0_hopeOf_45 j60) :=
  cLI (pc := 81) h dX0_hopeOf_81 (cB (pc := 83) h dX0_hopeOf_83 rfl (jCGe (pc := 85) h dX0_hopeOf_85 rfl (cLl (pc := 119) h dX0_hopeOf_119 rfl (zL (pc := 120) h hm (Nat.le_refl _) dX0_hopeOf_120)) (cLI (pc := 88) h dX0_hopeOf_88 (cLI (pc := 90) h dX0_hopeOf_90 (kCi (pc := 92) h (kd_X0_126 h dX0_hopeOf_92) spX11_has (by decide) (by decide) (by decide) (by decide) (jEq (pc := 95) h dX0_hopeOf_95 rfl (k60) (cLl (pc := 98) h dX0_hopeOf_98 rfl (cLa (pc := 99) h dX0_hopeOf_99 rfl (gGf (pc := 100) h dX0_hopeOf_100 ff_X0_55_68 (Nat.le_of_ble_eq_true rfl) (Nat.le_of_ble_eq_true rfl) rfl (cLi (pc := 103) h dX0_hopeOf_103 rfl (cLI (pc := 104) h dX0_hopeOf_104 (kCl (pc := 106) h (kd_X0_130 h dX0_hopeOf_106) spX4_gain (by decide) (by decide) (by decide) (by decide) (kCl (pc := 109) h (kd_X0_134 h dX0_hopeOf_109) spJ9_max_f86c9 (by decide) (by decide) (by decide) (by decide) (cSl (pc := 112) h dX0_hopeOf_112 rfl (k60)))))))))))))))
set_option maxRecDepth 20000 in
theorem lX0_hopeOf_45 (n : Nat) (a2 : Int32) (a3 : Int64) (a5 : Int32) (a6 : Int32) (m : qM) : tX0_hopeOf_45 (wX0_hopeOf_60 (fX0_hopeOf_60 (fX0_hopeOf_45 n))) [some (.ref 68), none, some (.int a2), some (.long a3), none, some (.int a5), some (.int a6)] [] m = fX0_hopeOf_45 (n + 1) a2 a3 a5 a6 m := rfl
theorem bX0_hopeOf_45 {C : qCx} {w : qWp} (h : qOk C w RX0 cX0_hopeOf 7 4 155 155) (hm : qMt C (some .long)) (hx : qNx C) : ∀ n : Nat, qSnd C w 7 155 (qQf C w 155 155 jL) qfin 155 81 (wX0_hopeOf_45 (fX0_hopeOf_45 n))
  | 0 => qSnd_of0 (fun lo st m x hr0 => by
    unfold wX0_hopeOf_45 at hr0
    split at hr0
    · cases hr0
    · cases hr0)
  | n + 1 => by
    have ih := bX0_hopeOf_45 h hm hx n
    exact qSnd_of (fun lo st m x hr0 => by
    unfold wX0_hopeOf_45 at hr0
    split at hr0
    · exact ⟨_, (qsub_e (qsub_n (qsub_e (qsub_e (qsub_n (qsub_e (qsub_e qsub_nil))))))), (lX0_hopeOf_45 n _ _ _ _ _).trans hr0⟩
    · cases hr0) (sX0_hopeOf_45 h hm hx (bX0_hopeOf_60 h hm hx ih))
noncomputable def tX0_hopeOf_0 (j7 : qT (Int64 × qM)) : qT (Int64 × qM) :=
  oLa 0 (oGf 68 2 69 (oLi 1 (oAi 69 4 (oSi 2 (oC (.int (0 : Int32)) (oSi 3 (j7)))))))
set_option maxRecDepth 20000 in
theorem sX0_hopeOf_0 {C : qCx} {w : qWp} (h : qOk C w RX0 cX0_hopeOf 7 4 155 155) (hm : qMt C (some .long)) (hx : qNx C) {j7 : qT (Int64 × qM)} (k7 : qSnd C w 7 155 (qQf C w 155 155 jL) qfin 155 9 j7) : qSnd C w 7 155 (qQf C w 155 155 jL) qfin 155 0 (tX0_hopeOf_0 j7) :=
  cLa (pc := 0) h dX0_hopeOf_0 rfl (gGf (pc := 1) h dX0_hopeOf_1 ff_X0_9_68 (Nat.le_of_ble_eq_true rfl) (Nat.le_of_ble_eq_true rfl) rfl (cLi (pc := 4) h dX0_hopeOf_4 rfl (rAi (pc := 5) h dX0_hopeOf_5 rfl (Nat.le_of_ble_eq_true rfl) (Nat.le_of_ble_eq_true rfl) (cSi (pc := 6) h dX0_hopeOf_6 rfl (cC (pc := 7) h dX0_hopeOf_7 rfl (cSi (pc := 8) h dX0_hopeOf_8 rfl (k7)))))))
set_option maxRecDepth 20000 in
theorem lX0_hopeOf_0 (a1 : Int32) (m : qM) : tX0_hopeOf_0 (wX0_hopeOf_7 (fX0_hopeOf_7 (fX0_hopeOf_45 FU) FU)) [some (.ref 68), some (.int a1), none, none, none, none, none] [] m = fX0_hopeOf_0 a1 m := rfl
noncomputable def GX0_hopeOf : qG Int64 := fun av m => match av with
  | [.ref 68, .int a1] => fX0_hopeOf a1 m
  | _ => none
theorem spX0_hopeOf : qSpL yX0_hopeOf (.code yX0_hopeOf cX0_hopeOf 7 (some .long)) 4 qfin 155 155 1 GX0_hopeOf := by
  intro av m x m' hG
  unfold GX0_hopeOf at hG
  split at hG
  · rename_i a1
    rw [fX0_hopeOf_d] at hG
    exact ⟨qmeet (J := jL) (r := (x, m')) (av := [.ref 68, .int a1]) (by decide +kernel) (Nat.le_of_ble_eq_true rfl) (fun C w h hm hx hn => sX0_hopeOf_0 h hm hx (bX0_hopeOf_7 h hm hx (bX0_hopeOf_45 h hm hx FU) FU)) ((lX0_hopeOf_0 _ _).trans hG) (Nat.le_of_ble_eq_true rfl), Or.inl ⟨68, _, 0, _, _, rfl, by decide, rfl, qCk_0, rfl⟩⟩
  · cases hG
theorem dX4_worth_0 : decode cX4_worth 0 = .ok (.aload_n 0, 1) := by decide +kernel
theorem dX4_worth_1 : decode cX4_worth 1 = .ok (.getfield 50, 3) := by decide +kernel
theorem dX4_worth_4 : decode cX4_worth 4 = .ok (.i2l, 1) := by decide +kernel
theorem dX4_worth_5 : decode cX4_worth 5 = .ok (.ldc2_w 134, 3) := by decide +kernel
theorem dX4_worth_8 : decode cX4_worth 8 = .ok (.lmul, 1) := by decide +kernel
theorem dX4_worth_9 : decode cX4_worth 9 = .ok (.aload_n 0, 1) := by decide +kernel
theorem dX4_worth_10 : decode cX4_worth 10 = .ok (.getfield 47, 3) := by decide +kernel
theorem dX4_worth_13 : decode cX4_worth 13 = .ok (.i2l, 1) := by decide +kernel
theorem dX4_worth_14 : decode cX4_worth 14 = .ok (.ldc2_w 136, 3) := by decide +kernel
theorem dX4_worth_17 : decode cX4_worth 17 = .ok (.lmul, 1) := by decide +kernel
theorem dX4_worth_18 : decode cX4_worth 18 = .ok (.ladd, 1) := by decide +kernel
theorem dX4_worth_19 : decode cX4_worth 19 = .ok (.aload_n 0, 1) := by decide +kernel
theorem dX4_worth_20 : decode cX4_worth 20 = .ok (.getfield 53, 3) := by decide +kernel
theorem dX4_worth_23 : decode cX4_worth 23 = .ok (.i2l, 1) := by decide +kernel
theorem dX4_worth_24 : decode cX4_worth 24 = .ok (.ldc2_w 138, 3) := by decide +kernel
theorem dX4_worth_27 : decode cX4_worth 27 = .ok (.lmul, 1) := by decide +kernel
theorem dX4_worth_28 : decode cX4_worth 28 = .ok (.lsub, 1) := by decide +kernel
theorem dX4_worth_29 : decode cX4_worth 29 = .ok (.aload_n 0, 1) := by decide +kernel
theorem dX4_worth_30 : decode cX4_worth 30 = .ok (.getfield 56, 3) := by decide +kernel
theorem dX4_worth_33 : decode cX4_worth 33 = .ok (.i2l, 1) := by decide +kernel
theorem dX4_worth_34 : decode cX4_worth 34 = .ok (.ladd, 1) := by decide +kernel
theorem dX4_worth_35 : decode cX4_worth 35 = .ok (.lreturn, 1) := by decide +kernel
noncomputable def tX4_worth_0 : qT (Int64 × qM) :=
  oLa 0 (oGi 58 14 (oI2l (oC (.long (67108864 : Int64)) (oJJ (· * ·) (oLa 0 (oGi 58 13 (oI2l (oC (.long (1048576 : Int64)) (oJJ (· * ·) (oJJ (· + ·) (oLa 0 (oGi 58 15 (oI2l (oC (.long (1024 : Int64)) (oJJ (· * ·) (oJJ (· - ·) (oLa 0 (oGi 58 16 (oI2l (oJJ (· + ·) (eL)))))))))))))))))))))
set_option maxRecDepth 20000 in
theorem sX4_worth_0 {C : qCx} {w : qWp} (h : qOk C w RX4 cX4_worth 1 0 155 155) (hm : qMt C (some .long)) (hx : qNx C) : qSnd C w 1 155 (qQf C w 155 155 jL) qfin 155 0 (tX4_worth_0) :=
  cLa (pc := 0) h dX4_worth_0 rfl (gGi (pc := 1) h dX4_worth_1 ff_X4_50_58 (Nat.le_of_ble_eq_true rfl) (Nat.le_of_ble_eq_true rfl) (aI2l (pc := 4) h dX4_worth_4 (cKJ (pc := 5) h dX4_worth_5 fc_X4_134 (aLmul (pc := 8) h dX4_worth_8 (cLa (pc := 9) h dX4_worth_9 rfl (gGi (pc := 10) h dX4_worth_10 ff_X4_47_58 (Nat.le_of_ble_eq_true rfl) (Nat.le_of_ble_eq_true rfl) (aI2l (pc := 13) h dX4_worth_13 (cKJ (pc := 14) h dX4_worth_14 fc_X4_136 (aLmul (pc := 17) h dX4_worth_17 (aLadd (pc := 18) h dX4_worth_18 (cLa (pc := 19) h dX4_worth_19 rfl (gGi (pc := 20) h dX4_worth_20 ff_X4_53_58 (Nat.le_of_ble_eq_true rfl) (Nat.le_of_ble_eq_true rfl) (aI2l (pc := 23) h dX4_worth_23 (cKJ (pc := 24) h dX4_worth_24 fc_X4_138 (aLmul (pc := 27) h dX4_worth_27 (aLsub (pc := 28) h dX4_worth_28 (cLa (pc := 29) h dX4_worth_29 rfl (gGi (pc := 30) h dX4_worth_30 ff_X4_56_58 (Nat.le_of_ble_eq_true rfl) (Nat.le_of_ble_eq_true rfl) (aI2l (pc := 33) h dX4_worth_33 (aLadd (pc := 34) h dX4_worth_34 (zL (pc := 35) h hm (Nat.le_refl _) dX4_worth_35)))))))))))))))))))))
set_option maxRecDepth 20000 in
theorem lX4_worth_0 (m : qM) : tX4_worth_0 [some (.ref 58)] [] m = fX4_worth_0 m := rfl
noncomputable def GX4_worth : qG Int64 := fun av m => match av with
  | [.ref 58] => fX4_worth m
  | _ => none
theorem spX4_worth : qSpL yX4_worth (.code yX4_worth cX4_worth 1 (some .long)) 0 qfin 155 155 1 GX4_worth := by
  intro av m x m' hG
  unfold GX4_worth at hG
  split at hG
  · rw [fX4_worth_d] at hG
    exact ⟨qmeet (J := jL) (r := (x, m')) (av := [.ref 58]) (by decide +kernel) (Nat.le_of_ble_eq_true rfl) (fun C w h hm hx hn => sX4_worth_0 h hm hx) ((lX4_worth_0 _).trans hG) (Nat.le_of_ble_eq_true rfl), Or.inl ⟨58, _, 4, _, _, rfl, by decide, rfl, qCk_4, rfl⟩⟩
  · cases hG
theorem dX4_take_0 : decode cX4_take 0 = .ok (.aload_n 0, 1) := by decide +kernel
theorem dX4_take_1 : decode cX4_take 1 = .ok (.getfield 22, 3) := by decide +kernel
theorem dX4_take_4 : decode cX4_take 4 = .ok (.iload_n 1, 1) := by decide +kernel
theorem dX4_take_5 : decode cX4_take 5 = .ok (.iaload, 1) := by decide +kernel
theorem dX4_take_6 : decode cX4_take 6 = .ok (.istore_n 2, 1) := by decide +kernel
theorem dX4_take_7 : decode cX4_take 7 = .ok (.aload_n 0, 1) := by decide +kernel
theorem dX4_take_8 : decode cX4_take 8 = .ok (.iload_n 1, 1) := by decide +kernel
theorem dX4_take_9 : decode cX4_take 9 = .ok (.iload_n 2, 1) := by decide +kernel
theorem dX4_take_10 : decode cX4_take 10 = .ok (.invokevirtual 71, 3) := by decide +kernel
theorem dX4_take_13 : decode cX4_take 13 = .ok (.aload_n 0, 1) := by decide +kernel
theorem dX4_take_14 : decode cX4_take 14 = .ok (.getfield 22, 3) := by decide +kernel
theorem dX4_take_17 : decode cX4_take 17 = .ok (.iload_n 1, 1) := by decide +kernel
theorem dX4_take_18 : decode cX4_take 18 = .ok (.iconst (-1), 1) := by decide +kernel
theorem dX4_take_19 : decode cX4_take 19 = .ok (.iastore, 1) := by decide +kernel
theorem dX4_take_20 : decode cX4_take 20 = .ok (.aload_n 0, 1) := by decide +kernel
theorem dX4_take_21 : decode cX4_take 21 = .ok (.getfield 28, 3) := by decide +kernel
theorem dX4_take_24 : decode cX4_take 24 = .ok (.aload_n 0, 1) := by decide +kernel
theorem dX4_take_25 : decode cX4_take 25 = .ok (.getfield 15, 3) := by decide +kernel
theorem dX4_take_28 : decode cX4_take 28 = .ok (.iload_n 1, 1) := by decide +kernel
theorem dX4_take_29 : decode cX4_take 29 = .ok (.iaload, 1) := by decide +kernel
theorem dX4_take_30 : decode cX4_take 30 = .ok (.bipush 20, 2) := by decide +kernel
theorem dX4_take_32 : decode cX4_take 32 = .ok (.imul, 1) := by decide +kernel
theorem dX4_take_33 : decode cX4_take 33 = .ok (.iload_n 2, 1) := by decide +kernel
theorem dX4_take_34 : decode cX4_take 34 = .ok (.iadd, 1) := by decide +kernel
theorem dX4_take_35 : decode cX4_take 35 = .ok (.iconst (-1), 1) := by decide +kernel
theorem dX4_take_36 : decode cX4_take 36 = .ok (.iastore, 1) := by decide +kernel
theorem dX4_take_37 : decode cX4_take 37 = .ok (.aload_n 0, 1) := by decide +kernel
theorem dX4_take_38 : decode cX4_take 38 = .ok (.dup, 1) := by decide +kernel
theorem dX4_take_39 : decode cX4_take 39 = .ok (.getfield 47, 3) := by decide +kernel
theorem dX4_take_42 : decode cX4_take 42 = .ok (.iconst 1, 1) := by decide +kernel
theorem dX4_take_43 : decode cX4_take 43 = .ok (.isub, 1) := by decide +kernel
theorem dX4_take_44 : decode cX4_take 44 = .ok (.putfield 47, 3) := by decide +kernel
theorem dX4_take_47 : decode cX4_take 47 = .ok (.aload_n 0, 1) := by decide +kernel
theorem dX4_take_48 : decode cX4_take 48 = .ok (.dup, 1) := by decide +kernel
theorem dX4_take_49 : decode cX4_take 49 = .ok (.getfield 50, 3) := by decide +kernel
theorem dX4_take_52 : decode cX4_take 52 = .ok (.aload_n 0, 1) := by decide +kernel
theorem dX4_take_53 : decode cX4_take 53 = .ok (.getfield 18, 3) := by decide +kernel
theorem dX4_take_56 : decode cX4_take 56 = .ok (.iload_n 1, 1) := by decide +kernel
theorem dX4_take_57 : decode cX4_take 57 = .ok (.baload, 1) := by decide +kernel
theorem dX4_take_58 : decode cX4_take 58 = .ok (.ifCond .eq 7, 3) := by decide +kernel
theorem dX4_take_61 : decode cX4_take 61 = .ok (.iconst 1, 1) := by decide +kernel
theorem dX4_take_62 : decode cX4_take 62 = .ok (.goto 4, 3) := by decide +kernel
theorem dX4_take_65 : decode cX4_take 65 = .ok (.iconst 0, 1) := by decide +kernel
theorem dX4_take_66 : decode cX4_take 66 = .ok (.isub, 1) := by decide +kernel
theorem dX4_take_67 : decode cX4_take 67 = .ok (.putfield 50, 3) := by decide +kernel
theorem dX4_take_70 : decode cX4_take 70 = .ok (.aload_n 0, 1) := by decide +kernel
theorem dX4_take_71 : decode cX4_take 71 = .ok (.dup, 1) := by decide +kernel
theorem dX4_take_72 : decode cX4_take 72 = .ok (.getfield 56, 3) := by decide +kernel
theorem dX4_take_75 : decode cX4_take 75 = .ok (.aload_n 0, 1) := by decide +kernel
theorem dX4_take_76 : decode cX4_take 76 = .ok (.iload_n 1, 1) := by decide +kernel
theorem dX4_take_77 : decode cX4_take 77 = .ok (.iload_n 2, 1) := by decide +kernel
theorem dX4_take_78 : decode cX4_take 78 = .ok (.invokevirtual 75, 3) := by decide +kernel
theorem dX4_take_81 : decode cX4_take 81 = .ok (.isub, 1) := by decide +kernel
theorem dX4_take_82 : decode cX4_take 82 = .ok (.putfield 56, 3) := by decide +kernel
theorem dX4_take_85 : decode cX4_take 85 = .ok (.iload_n 2, 1) := by decide +kernel
theorem dX4_take_86 : decode cX4_take 86 = .ok (.ireturn, 1) := by decide +kernel
noncomputable def tX4_take_43 : qT (Int32 × qM) :=
  o2 (· - ·) (oPi 58 14 (oLa 0 (oDup (oGi 58 16 (oLa 0 (oLi 1 (oLi 2 (oCi GX4_pointsIn 3 (o2 (· - ·) (oPi 58 16 (oLi 2 (eI))))))))))))
noncomputable def wX4_take_43 (k : Int32 → Int32 → Int32 → Int32 → qM → Option (Int32 × qM)) : qT (Int32 × qM) := fun lo st m => match lo, st with
  | [some (.ref 58), some (.int a1), some (.int a2)], [.int s0, .int s1, .ref 58] => k a1 a2 s0 s1 m
  | _, _ => none
set_option maxRecDepth 20000 in
theorem sX4_take_43 {C : qCx} {w : qWp} (h : qOk C w RX4 cX4_take 3 3 155 155) (hm : qMt C (some .int)) (hx : qNx C) : qSnd C w 3 155 (qQf C w 155 155 jI) qfin 155 66 (tX4_take_43) :=
  aSub (pc := 66) h dX4_take_66 (gPi (pc := 67) h dX4_take_67 ff_X4_50_58 (Or.inl rfl) (Nat.le_of_ble_eq_true rfl) (Nat.le_of_ble_eq_true rfl) (cLa (pc := 70) h dX4_take_70 rfl (aDup (pc := 71) h dX4_take_71 (gGi (pc := 72) h dX4_take_72 ff_X4_56_58 (Nat.le_of_ble_eq_true rfl) (Nat.le_of_ble_eq_true rfl) (cLa (pc := 75) h dX4_take_75 rfl (cLi (pc := 76) h dX4_take_76 rfl (cLi (pc := 77) h dX4_take_77 rfl (kCi (pc := 78) h (kd_X4_75 h dX4_take_78) spX4_pointsIn (by decide) (by decide) (by decide) (by decide) (aSub (pc := 81) h dX4_take_81 (gPi (pc := 82) h dX4_take_82 ff_X4_56_58 (Or.inl rfl) (Nat.le_of_ble_eq_true rfl) (Nat.le_of_ble_eq_true rfl) (cLi (pc := 85) h dX4_take_85 rfl (zI (pc := 86) h hm (Nat.le_refl _) dX4_take_86))))))))))))
set_option maxRecDepth 20000 in
theorem lX4_take_43 (a1 : Int32) (a2 : Int32) (s0 : Int32) (s1 : Int32) (m : qM) : tX4_take_43 [some (.ref 58), some (.int a1), some (.int a2)] [(.int s0), (.int s1), (.ref 58)] m = fX4_take_43 a1 a2 s0 s1 m := rfl
theorem bX4_take_43 {C : qCx} {w : qWp} (h : qOk C w RX4 cX4_take 3 3 155 155) (hm : qMt C (some .int)) (hx : qNx C) : qSnd C w 3 155 (qQf C w 155 155 jI) qfin 155 66 (wX4_take_43 fX4_take_43) :=
  qSnd_of (fun lo st m x hr0 => by
    unfold wX4_take_43 at hr0
    split at hr0
    · exact ⟨_, (qsub_e (qsub_e (qsub_e qsub_nil))), (lX4_take_43 _ _ _ _ _).trans hr0⟩
    · cases hr0) (sX4_take_43 h hm hx)
noncomputable def tX4_take_0 (j43 : qT (Int32 × qM)) : qT (Int32 × qM) :=
  oLa 0 (oGf 58 5 62 (oLi 1 (oAi 62 40 (oSi 2 (oLa 0 (oLi 1 (oLi 2 (oCv GX4_mark 3 (oLa 0 (oGf 58 5 62 (oLi 1 (oC (.int (-1 : Int32)) (oWi 62 40 (oLa 0 (oGf 58 7 64 (oLa 0 (oGf 58 3 60 (oLi 1 (oAi 60 40 (oC (.int (20 : Int32)) (o2 (· * ·) (oLi 2 (o2 (· + ·) (oC (.int (-1 : Int32)) (oWi 64 200 (oLa 0 (oDup (oGi 58 13 (oC (.int (1 : Int32)) (o2 (· - ·) (oPi 58 13 (oLa 0 (oDup (oGi 58 14 (oLa 0 (oGf 58 4 61 (oLi 1 (oAi 61 40 (oEq (oC (.int (0 : Int32)) (j43)) (oC (.int (1 : Int32)) (j43)))))))))))))))))))))))))))))))))))))))))
set_option maxRecDepth 20000 in
theorem sX4_take_0 {C : qCx} {w : qWp} (h : qOk C w RX4 cX4_take 3 3 155 155) (hm : qMt C (some .int)) (hx : qNx C) {j43 : qT (Int32 × qM)} (k43 : qSnd C w 3 155 (qQf C w 155 155 jI) qfin 155 66 j43) : qSnd C w 3 155 (qQf C w 155 155 jI) qfin 155 0 (tX4_take_0 j43) :=
  cLa (pc := 0) h dX4_take_0 rfl (gGf (pc := 1) h dX4_take_1 ff_X4_22_58 (Nat.le_of_ble_eq_true rfl) (Nat.le_of_ble_eq_true rfl) rfl (cLi (pc := 4) h dX4_take_4 rfl (rAi (pc := 5) h dX4_take_5 rfl (Nat.le_of_ble_eq_true rfl) (Nat.le_of_ble_eq_true rfl) (cSi (pc := 6) h dX4_take_6 rfl (cLa (pc := 7) h dX4_take_7 rfl (cLi (pc := 8) h dX4_take_8 rfl (cLi (pc := 9) h dX4_take_9 rfl (kCv (pc := 10) h (kd_X4_71 h dX4_take_10) spX4_mark (by decide) (by decide) (by decide) (by decide) (cLa (pc := 13) h dX4_take_13 rfl (gGf (pc := 14) h dX4_take_14 ff_X4_22_58 (Nat.le_of_ble_eq_true rfl) (Nat.le_of_ble_eq_true rfl) rfl (cLi (pc := 17) h dX4_take_17 rfl (cC (pc := 18) h dX4_take_18 rfl (rWi (pc := 19) h dX4_take_19 rfl (Nat.le_of_ble_eq_true rfl) (Nat.le_of_ble_eq_true rfl) (cLa (pc := 20) h dX4_take_20 rfl (gGf (pc := 21) h dX4_take_21 ff_X4_28_58 (Nat.le_of_ble_eq_true rfl) (Nat.le_of_ble_eq_true rfl) rfl (cLa (pc := 24) h dX4_take_24 rfl (gGf (pc := 25) h dX4_take_25 ff_X4_15_58 (Nat.le_of_ble_eq_true rfl) (Nat.le_of_ble_eq_true rfl) rfl (cLi (pc := 28) h dX4_take_28 rfl (rAi (pc := 29) h dX4_take_29 rfl (Nat.le_of_ble_eq_true rfl) (Nat.le_of_ble_eq_true rfl) (cB (pc := 30) h dX4_take_30 rfl (aMul (pc := 32) h dX4_take_32 (cLi (pc := 33) h dX4_take_33 rfl (aAdd (pc := 34) h dX4_take_34 (cC (pc := 35) h dX4_take_35 rfl (rWi (pc := 36) h dX4_take_36 rfl (Nat.le_of_ble_eq_true rfl) (Nat.le_of_ble_eq_true rfl) (cLa (pc := 37) h dX4_take_37 rfl (aDup (pc := 38) h dX4_take_38 (gGi (pc := 39) h dX4_take_39 ff_X4_47_58 (Nat.le_of_ble_eq_true rfl) (Nat.le_of_ble_eq_true rfl) (cC (pc := 42) h dX4_take_42 rfl (aSub (pc := 43) h dX4_take_43 (gPi (pc := 44) h dX4_take_44 ff_X4_47_58 (Or.inl rfl) (Nat.le_of_ble_eq_true rfl) (Nat.le_of_ble_eq_true rfl) (cLa (pc := 47) h dX4_take_47 rfl (aDup (pc := 48) h dX4_take_48 (gGi (pc := 49) h dX4_take_49 ff_X4_50_58 (Nat.le_of_ble_eq_true rfl) (Nat.le_of_ble_eq_true rfl) (cLa (pc := 52) h dX4_take_52 rfl (gGf (pc := 53) h dX4_take_53 ff_X4_18_58 (Nat.le_of_ble_eq_true rfl) (Nat.le_of_ble_eq_true rfl) rfl (cLi (pc := 56) h dX4_take_56 rfl (rAz (pc := 57) h dX4_take_57 rfl (Nat.le_of_ble_eq_true rfl) (Nat.le_of_ble_eq_true rfl) (jEq (pc := 58) h dX4_take_58 rfl (cC (pc := 65) h dX4_take_65 rfl (k43)) (cC (pc := 61) h dX4_take_61 rfl (jGo (pc := 62) h dX4_take_62 rfl (k43))))))))))))))))))))))))))))))))))))))))))
set_option maxRecDepth 20000 in
theorem lX4_take_0 (a1 : Int32) (m : qM) : tX4_take_0 (wX4_take_43 fX4_take_43) [some (.ref 58), some (.int a1), none] [] m = fX4_take_0 a1 m := rfl
noncomputable def GX4_take : qG Int32 := fun av m => match av with
  | [.ref 58, .int a1] => fX4_take a1 m
  | _ => none
theorem spX4_take : qSpI yX4_take (.code yX4_take cX4_take 3 (some .int)) 3 qfin 155 155 1 GX4_take := by
  intro av m x m' hG
  unfold GX4_take at hG
  split at hG
  · rename_i a1
    rw [fX4_take_d] at hG
    exact ⟨qmeet (J := jI) (r := (x, m')) (av := [.ref 58, .int a1]) (by decide +kernel) (Nat.le_of_ble_eq_true rfl) (fun C w h hm hx hn => sX4_take_0 h hm hx (bX4_take_43 h hm hx)) ((lX4_take_0 _ _).trans hG) (Nat.le_of_ble_eq_true rfl), Or.inl ⟨58, _, 4, _, _, rfl, by decide, rfl, qCk_4, rfl⟩⟩
  · cases hG
theorem im_X4_worth : Jvm.Cond.instanceMethod yX4_worth ∈ qTw := qm4 (List.mem_of_getElem? (i := 217) (by decide +kernel)) (by decide +kernel)
theorem se_X4_worth : Jvm.Cond.selects yX4_worth.cls yX4_worth yX4_worth ∈ qTw := qm4 (List.mem_of_getElem? (i := 218) (by decide +kernel)) (by decide +kernel)
theorem co_X4_worth : Jvm.Cond.code yX4_worth cX4_worth 1 (some .long) ∈ qTw := qm4 (List.mem_of_getElem? (i := 219) (by decide +kernel)) (by decide +kernel)
theorem yk_X4_worth : qYk yX4_worth 0 := ⟨⟨by decide +kernel, by decide +kernel⟩, by decide +kernel⟩
theorem ml_X0_140 : Jvm.Cond.methodLink RX0 140 yX4_worth ∈ qTw := qm4 (List.mem_of_getElem? (i := 216) (by decide +kernel)) (by decide +kernel)
theorem kd_X0_140 {C : qCx} {w : qWp} {cc : ByteArray} {nL dp n0 n1 pc : Nat} (h : qOk C w RX0 cc nL dp n0 n1) (d : decode cc pc = .ok (.invokevirtual 140, 3)) : qCallOk C w nL dp n0 n1 pc 1 1 yX4_worth (.code yX4_worth cX4_worth 1 (some .long)) := kindV h d ml_X0_140 im_X4_worth se_X4_worth in_ParentEve_Plan co_X4_worth yk_X4_worth (by decide)
theorem fy_X0_144 : Jvm.Cond.methodLink RX0 144 arraycopyName ∈ qTw := qm4 (List.mem_of_getElem? (i := 220) (by decide +kernel)) (by decide +kernel)
theorem fy_nat : Jvm.Cond.native arraycopyName ∈ qTw := qm3 (List.mem_of_getElem? (i := 32) (by decide +kernel)) (by decide +kernel)
theorem fy_stat : Jvm.Cond.static arraycopyName ∈ qTw := qm3 (List.mem_of_getElem? (i := 31) (by decide +kernel)) (by decide +kernel)
theorem fy_init : Jvm.Cond.initialized "java/lang/System" ∈ qTw := qm1 (List.mem_of_getElem? (i := 18) (by decide +kernel)) (by decide +kernel)
theorem im_X0_tryFrom : Jvm.Cond.instanceMethod yX0_tryFrom ∈ qTw := qm4 (List.mem_of_getElem? (i := 214) (by decide +kernel)) (by decide +kernel)
theorem se_X0_tryFrom : Jvm.Cond.selects yX0_tryFrom.cls yX0_tryFrom yX0_tryFrom ∈ qTw := List.mem_filter.mpr ⟨List.mem_append_left _ (List.mem_of_getElem? (i := 13) (by decide +kernel)), rfl⟩
theorem co_X0_tryFrom : Jvm.Cond.code yX0_tryFrom cX0_tryFrom 5 none ∈ qTw := qm4 (List.mem_of_getElem? (i := 215) (by decide +kernel)) (by decide +kernel)
theorem yk_X0_tryFrom : qYk yX0_tryFrom 1 := ⟨⟨by decide +kernel, by decide +kernel⟩, by decide +kernel⟩
theorem ml_X0_111 : Jvm.Cond.methodLink RX0 111 yX0_tryFrom ∈ qTw := qm4 (List.mem_of_getElem? (i := 212) (by decide +kernel)) (by decide +kernel)
theorem kd_X0_111 {C : qCx} {w : qWp} {cc : ByteArray} {nL dp n0 n1 pc : Nat} (h : qOk C w RX0 cc nL dp n0 n1) (d : decode cc pc = .ok (.invokevirtual 111, 3)) : qCallOk C w nL dp n0 n1 pc 2 1 yX0_tryFrom (.code yX0_tryFrom cX0_tryFrom 5 none) := kindV h d ml_X0_111 im_X0_tryFrom se_X0_tryFrom in_ParentEve_Chooser co_X0_tryFrom yk_X0_tryFrom (by decide)
theorem im_X4_take : Jvm.Cond.instanceMethod yX4_take ∈ qTw := qm4 (List.mem_of_getElem? (i := 138) (by decide +kernel)) (by decide +kernel)
theorem se_X4_take : Jvm.Cond.selects yX4_take.cls yX4_take yX4_take ∈ qTw := qm4 (List.mem_of_getElem? (i := 139) (by decide +kernel)) (by decide +kernel)
theorem co_X4_take : Jvm.Cond.code yX4_take cX4_take 3 (some .int) ∈ qTw := qm4 (List.mem_of_getElem? (i := 140) (by decide +kernel)) (by decide +kernel)
theorem yk_X4_take : qYk yX4_take 1 := ⟨⟨by decide +kernel, by decide +kernel⟩, by decide +kernel⟩
theorem ml_X0_114 : Jvm.Cond.methodLink RX0 114 yX4_take ∈ qTw := qm4 (List.mem_of_getElem? (i := 221) (by decide +kernel)) (by decide +kernel)
theorem kd_X0_114 {C : qCx} {w : qWp} {cc : ByteArray} {nL dp n0 n1 pc : Nat} (h : qOk C w RX0 cc nL dp n0 n1) (d : decode cc pc = .ok (.invokevirtual 114, 3)) : qCallOk C w nL dp n0 n1 pc 2 1 yX4_take (.code yX4_take cX4_take 3 (some .int)) := kindV h d ml_X0_114 im_X4_take se_X4_take in_ParentEve_Plan co_X4_take yk_X4_take (by decide)
theorem dX0_tryFrom_0 : decode cX0_tryFrom 0 = .ok (.aload_n 0, 1) := by decide +kernel
theorem dX0_tryFrom_1 : decode cX0_tryFrom 1 = .ok (.getfield 55, 3) := by decide +kernel
theorem dX0_tryFrom_4 : decode cX0_tryFrom 4 = .ok (.invokevirtual 140, 3) := by decide +kernel
theorem dX0_tryFrom_7 : decode cX0_tryFrom 7 = .ok (.aload_n 0, 1) := by decide +kernel
theorem dX0_tryFrom_8 : decode cX0_tryFrom 8 = .ok (.getfield 24, 3) := by decide +kernel
theorem dX0_tryFrom_11 : decode cX0_tryFrom 11 = .ok (.iload_n 1, 1) := by decide +kernel
theorem dX0_tryFrom_12 : decode cX0_tryFrom 12 = .ok (.laload, 1) := by decide +kernel
theorem dX0_tryFrom_13 : decode cX0_tryFrom 13 = .ok (.ladd, 1) := by decide +kernel
theorem dX0_tryFrom_14 : decode cX0_tryFrom 14 = .ok (.aload_n 0, 1) := by decide +kernel
theorem dX0_tryFrom_15 : decode cX0_tryFrom 15 = .ok (.getfield 35, 3) := by decide +kernel
theorem dX0_tryFrom_18 : decode cX0_tryFrom 18 = .ok (.lcmp, 1) := by decide +kernel
theorem dX0_tryFrom_19 : decode cX0_tryFrom 19 = .ok (.ifCond .gt 4, 3) := by decide +kernel
theorem dX0_tryFrom_22 : decode cX0_tryFrom 22 = .ok (.return_, 1) := by decide +kernel
theorem dX0_tryFrom_23 : decode cX0_tryFrom 23 = .ok (.iload_n 1, 1) := by decide +kernel
theorem dX0_tryFrom_24 : decode cX0_tryFrom 24 = .ok (.aload_n 0, 1) := by decide +kernel
theorem dX0_tryFrom_25 : decode cX0_tryFrom 25 = .ok (.getfield 28, 3) := by decide +kernel
theorem dX0_tryFrom_28 : decode cX0_tryFrom 28 = .ok (.if_icmp .lt 29, 3) := by decide +kernel
theorem dX0_tryFrom_31 : decode cX0_tryFrom 31 = .ok (.aload_n 0, 1) := by decide +kernel
theorem dX0_tryFrom_32 : decode cX0_tryFrom 32 = .ok (.aload_n 0, 1) := by decide +kernel
theorem dX0_tryFrom_33 : decode cX0_tryFrom 33 = .ok (.getfield 55, 3) := by decide +kernel
theorem dX0_tryFrom_36 : decode cX0_tryFrom 36 = .ok (.invokevirtual 140, 3) := by decide +kernel
theorem dX0_tryFrom_39 : decode cX0_tryFrom 39 = .ok (.putfield 35, 3) := by decide +kernel
theorem dX0_tryFrom_42 : decode cX0_tryFrom 42 = .ok (.aload_n 0, 1) := by decide +kernel
theorem dX0_tryFrom_43 : decode cX0_tryFrom 43 = .ok (.getfield 18, 3) := by decide +kernel
theorem dX0_tryFrom_46 : decode cX0_tryFrom 46 = .ok (.iconst 0, 1) := by decide +kernel
theorem dX0_tryFrom_47 : decode cX0_tryFrom 47 = .ok (.aload_n 0, 1) := by decide +kernel
theorem dX0_tryFrom_48 : decode cX0_tryFrom 48 = .ok (.getfield 21, 3) := by decide +kernel
theorem dX0_tryFrom_51 : decode cX0_tryFrom 51 = .ok (.iconst 0, 1) := by decide +kernel
theorem dX0_tryFrom_52 : decode cX0_tryFrom 52 = .ok (.iconst 4, 1) := by decide +kernel
theorem dX0_tryFrom_53 : decode cX0_tryFrom 53 = .ok (.invokestatic 144, 3) := by decide +kernel
theorem dX0_tryFrom_56 : decode cX0_tryFrom 56 = .ok (.return_, 1) := by decide +kernel
theorem dX0_tryFrom_57 : decode cX0_tryFrom 57 = .ok (.aload_n 0, 1) := by decide +kernel
theorem dX0_tryFrom_58 : decode cX0_tryFrom 58 = .ok (.getfield 9, 3) := by decide +kernel
theorem dX0_tryFrom_61 : decode cX0_tryFrom 61 = .ok (.iload_n 1, 1) := by decide +kernel
theorem dX0_tryFrom_62 : decode cX0_tryFrom 62 = .ok (.iaload, 1) := by decide +kernel
theorem dX0_tryFrom_63 : decode cX0_tryFrom 63 = .ok (.istore_n 2, 1) := by decide +kernel
theorem dX0_tryFrom_64 : decode cX0_tryFrom 64 = .ok (.aload_n 0, 1) := by decide +kernel
theorem dX0_tryFrom_65 : decode cX0_tryFrom 65 = .ok (.getfield 55, 3) := by decide +kernel
theorem dX0_tryFrom_68 : decode cX0_tryFrom 68 = .ok (.iload_n 2, 1) := by decide +kernel
theorem dX0_tryFrom_69 : decode cX0_tryFrom 69 = .ok (.invokevirtual 92, 3) := by decide +kernel
theorem dX0_tryFrom_72 : decode cX0_tryFrom 72 = .ok (.aload_n 0, 1) := by decide +kernel
theorem dX0_tryFrom_73 : decode cX0_tryFrom 73 = .ok (.getfield 32, 3) := by decide +kernel
theorem dX0_tryFrom_76 : decode cX0_tryFrom 76 = .ok (.iand, 1) := by decide +kernel
theorem dX0_tryFrom_77 : decode cX0_tryFrom 77 = .ok (.istore_n 3, 1) := by decide +kernel
theorem dX0_tryFrom_78 : decode cX0_tryFrom 78 = .ok (.iconst 0, 1) := by decide +kernel
theorem dX0_tryFrom_79 : decode cX0_tryFrom 79 = .ok (.istore 4, 2) := by decide +kernel
theorem dX0_tryFrom_81 : decode cX0_tryFrom 81 = .ok (.iload 4, 2) := by decide +kernel
theorem dX0_tryFrom_83 : decode cX0_tryFrom 83 = .ok (.bipush 20, 2) := by decide +kernel
theorem dX0_tryFrom_85 : decode cX0_tryFrom 85 = .ok (.if_icmp .ge 52, 3) := by decide +kernel
theorem dX0_tryFrom_88 : decode cX0_tryFrom 88 = .ok (.iload_n 3, 1) := by decide +kernel
theorem dX0_tryFrom_89 : decode cX0_tryFrom 89 = .ok (.iload 4, 2) := by decide +kernel
theorem dX0_tryFrom_91 : decode cX0_tryFrom 91 = .ok (.invokestatic 126, 3) := by decide +kernel
theorem dX0_tryFrom_94 : decode cX0_tryFrom 94 = .ok (.ifCond .eq 37, 3) := by decide +kernel
theorem dX0_tryFrom_97 : decode cX0_tryFrom 97 = .ok (.aload_n 0, 1) := by decide +kernel
theorem dX0_tryFrom_98 : decode cX0_tryFrom 98 = .ok (.getfield 18, 3) := by decide +kernel
theorem dX0_tryFrom_101 : decode cX0_tryFrom 101 = .ok (.iload_n 1, 1) := by decide +kernel
theorem dX0_tryFrom_102 : decode cX0_tryFrom 102 = .ok (.iload 4, 2) := by decide +kernel
theorem dX0_tryFrom_104 : decode cX0_tryFrom 104 = .ok (.iastore, 1) := by decide +kernel
theorem dX0_tryFrom_105 : decode cX0_tryFrom 105 = .ok (.aload_n 0, 1) := by decide +kernel
theorem dX0_tryFrom_106 : decode cX0_tryFrom 106 = .ok (.getfield 55, 3) := by decide +kernel
theorem dX0_tryFrom_109 : decode cX0_tryFrom 109 = .ok (.iload_n 2, 1) := by decide +kernel
theorem dX0_tryFrom_110 : decode cX0_tryFrom 110 = .ok (.iload 4, 2) := by decide +kernel
theorem dX0_tryFrom_112 : decode cX0_tryFrom 112 = .ok (.invokevirtual 101, 3) := by decide +kernel
theorem dX0_tryFrom_115 : decode cX0_tryFrom 115 = .ok (.aload_n 0, 1) := by decide +kernel
theorem dX0_tryFrom_116 : decode cX0_tryFrom 116 = .ok (.iload_n 1, 1) := by decide +kernel
theorem dX0_tryFrom_117 : decode cX0_tryFrom 117 = .ok (.iconst 1, 1) := by decide +kernel
theorem dX0_tryFrom_118 : decode cX0_tryFrom 118 = .ok (.iadd, 1) := by decide +kernel
theorem dX0_tryFrom_119 : decode cX0_tryFrom 119 = .ok (.invokevirtual 111, 3) := by decide +kernel
theorem dX0_tryFrom_122 : decode cX0_tryFrom 122 = .ok (.aload_n 0, 1) := by decide +kernel
theorem dX0_tryFrom_123 : decode cX0_tryFrom 123 = .ok (.getfield 55, 3) := by decide +kernel
theorem dX0_tryFrom_126 : decode cX0_tryFrom 126 = .ok (.iload_n 2, 1) := by decide +kernel
theorem dX0_tryFrom_127 : decode cX0_tryFrom 127 = .ok (.invokevirtual 114, 3) := by decide +kernel
theorem dX0_tryFrom_130 : decode cX0_tryFrom 130 = .ok (.pop, 1) := by decide +kernel
theorem dX0_tryFrom_131 : decode cX0_tryFrom 131 = .ok (.iinc 4 1, 3) := by decide +kernel
theorem dX0_tryFrom_134 : decode cX0_tryFrom 134 = .ok (.goto (-53), 3) := by decide +kernel
theorem dX0_tryFrom_137 : decode cX0_tryFrom 137 = .ok (.aload_n 0, 1) := by decide +kernel
theorem dX0_tryFrom_138 : decode cX0_tryFrom 138 = .ok (.getfield 18, 3) := by decide +kernel
theorem dX0_tryFrom_141 : decode cX0_tryFrom 141 = .ok (.iload_n 1, 1) := by decide +kernel
theorem dX0_tryFrom_142 : decode cX0_tryFrom 142 = .ok (.bipush 20, 2) := by decide +kernel
theorem dX0_tryFrom_144 : decode cX0_tryFrom 144 = .ok (.iastore, 1) := by decide +kernel
theorem dX0_tryFrom_145 : decode cX0_tryFrom 145 = .ok (.aload_n 0, 1) := by decide +kernel
theorem dX0_tryFrom_146 : decode cX0_tryFrom 146 = .ok (.iload_n 1, 1) := by decide +kernel
theorem dX0_tryFrom_147 : decode cX0_tryFrom 147 = .ok (.iconst 1, 1) := by decide +kernel
theorem dX0_tryFrom_148 : decode cX0_tryFrom 148 = .ok (.iadd, 1) := by decide +kernel
theorem dX0_tryFrom_149 : decode cX0_tryFrom 149 = .ok (.invokevirtual 111, 3) := by decide +kernel
theorem dX0_tryFrom_152 : decode cX0_tryFrom 152 = .ok (.return_, 1) := by decide +kernel
noncomputable def tX0_tryFrom_73 (G : qG Unit) (j46 : qT (Unit × qM)) : qT (Unit × qM) :=
  oInc 4 (1 : Int32) (j46)
noncomputable def wX0_tryFrom_73 (k : Int32 → Int32 → Int32 → Int32 → qM → Option (Unit × qM)) : qT (Unit × qM) := fun lo st m => match lo, st with
  | [some (.ref 68), some (.int a1), some (.int a2), some (.int a3), some (.int a4)], [] => k a1 a2 a3 a4 m
  | _, _ => none
noncomputable def wX0_tryFrom_46 (k : Int32 → Int32 → Int32 → Int32 → qM → Option (Unit × qM)) : qT (Unit × qM) := fun lo st m => match lo, st with
  | [some (.ref 68), some (.int a1), some (.int a2), some (.int a3), some (.int a4)], [] => k a1 a2 a3 a4 m
  | _, _ => none
set_option maxRecDepth 20000 in
theorem sX0_tryFrom_73 {C : qCx} {w : qWp} {dp dG : Nat} {G : qG Unit} (h : qOk C w RX0 cX0_tryFrom 5 dp 155 155) (hm : qMt C none) (hx : qNx C) (hG : qSpV yX0_tryFrom (.code yX0_tryFrom cX0_tryFrom 5 none) dG qfin 155 155 1 G) (hdG : dG + 1 ≤ dp) (hdp : 4 ≤ dp) {j46 : qT (Unit × qM)} (k46 : qSnd C w 5 155 (qQf C w 155 155 jV) qfin 155 81 j46) : qSnd C w 5 155 (qQf C w 155 155 jV) qfin 155 131 (tX0_tryFrom_73 G j46) :=
  cInc (pc := 131) h dX0_tryFrom_131 rfl (jGo (pc := 134) h dX0_tryFrom_134 rfl (k46))
set_option maxRecDepth 20000 in
theorem lX0_tryFrom_73 (G : qG Unit) (k46 : Int32 → Int32 → Int32 → Int32 → qM → Option (Unit × qM)) (a1 : Int32) (a2 : Int32) (a3 : Int32) (a4 : Int32) (m : qM) : tX0_tryFrom_73 G (wX0_tryFrom_46 k46) [some (.ref 68), some (.int a1), some (.int a2), some (.int a3), some (.int a4)] [] m = fX0_tryFrom_73 G k46 a1 a2 a3 a4 m := rfl
theorem bX0_tryFrom_73 {C : qCx} {w : qWp} {dp dG : Nat} {G : qG Unit} (h : qOk C w RX0 cX0_tryFrom 5 dp 155 155) (hm : qMt C none) (hx : qNx C) (hG : qSpV yX0_tryFrom (.code yX0_tryFrom cX0_tryFrom 5 none) dG qfin 155 155 1 G) (hdG : dG + 1 ≤ dp) (hdp : 4 ≤ dp) {k46 : Int32 → Int32 → Int32 → Int32 → qM → Option (Unit × qM)} (h46 : qSnd C w 5 155 (qQf C w 155 155 jV) qfin 155 81 (wX0_tryFrom_46 k46)) : qSnd C w 5 155 (qQf C w 155 155 jV) qfin 155 131 (wX0_tryFrom_73 (fX0_tryFrom_73 G k46)) :=
  qSnd_of (fun lo st m x hr0 => by
    unfold wX0_tryFrom_73 at hr0
    split at hr0
    · exact ⟨_, (qsub_e (qsub_e (qsub_e (qsub_e (qsub_e qsub_nil))))), (lX0_tryFrom_73 _ _ _ _ _ _ _).trans hr0⟩
    · cases hr0) (sX0_tryFrom_73 h hm hx hG hdG hdp h46)
noncomputable def tX0_tryFrom_46 (G : qG Unit) (j73 : qT (Unit × qM)) : qT (Unit × qM) :=
  oLi 4 (oC (.int (20 : Int32)) (oCGe (oLa 0 (oGf 68 4 71 (oLi 1 (oC (.int (20 : Int32)) (oWi 71 4 (oLa 0 (oLi 1 (oC (.int (1 : Int32)) (o2 (· + ·) (oCv G 2 (eV))))))))))) (oLi 3 (oLi 4 (oCi GX11_has 2 (oEq (j73) (oLa 0 (oGf 68 4 71 (oLi 1 (oLi 4 (oWi 71 4 (oLa 0 (oGf 68 1 58 (oLi 2 (oLi 4 (oCv GX4_put 3 (oLa 0 (oLi 1 (oC (.int (1 : Int32)) (o2 (· + ·) (oCv G 2 (oLa 0 (oGf 68 1 58 (oLi 2 (oCi GX4_take 2 (oPop (j73)))))))))))))))))))))))))))
set_option maxRecDepth 20000 in
theorem sX0_tryFrom_46 {C : qCx} {w : qWp} {dp dG : Nat} {G : qG Unit} (h : qOk C w RX0 cX0_tryFrom 5 dp 155 155) (hm : qMt C none) (hx : qNx C) (hG : qSpV yX0_tryFrom (.code yX0_tryFrom cX0_tryFrom 5 none) dG qfin 155 155 1 G) (hdG : dG + 1 ≤ dp) (hdp : 4 ≤ dp) {j73 : qT (Unit × qM)} (k73 : qSnd C w 5 155 (qQf C w 155 155 jV) qfin 155 131 j73) : qSnd C w 5 155 (qQf C w 155 155 jV) qfin 155 81 (tX0_tryFrom_46 G j73) :=
  cLI (pc := 81) h dX0_tryFrom_81 (cB (pc := 83) h dX0_tryFrom_83 rfl (jCGe (pc := 85) h dX0_tryFrom_85 rfl (cLa (pc := 137) h dX0_tryFrom_137 rfl (gGf (pc := 138) h dX0_tryFrom_138 ff_X0_18_68 (Nat.le_of_ble_eq_true rfl) (Nat.le_of_ble_eq_true rfl) rfl (cLi (pc := 141) h dX0_tryFrom_141 rfl (cB (pc := 142) h dX0_tryFrom_142 rfl (rWi (pc := 144) h dX0_tryFrom_144 rfl (Nat.le_of_ble_eq_true rfl) (Nat.le_of_ble_eq_true rfl) (cLa (pc := 145) h dX0_tryFrom_145 rfl (cLi (pc := 146) h dX0_tryFrom_146 rfl (cC (pc := 147) h dX0_tryFrom_147 rfl (aAdd (pc := 148) h dX0_tryFrom_148 (kCv (pc := 149) h (kd_X0_111 h dX0_tryFrom_149) hG hdG (by decide) (by decide) (by decide) (zV (pc := 152) h hm (Nat.le_refl _) dX0_tryFrom_152))))))))))) (cLi (pc := 88) h dX0_tryFrom_88 rfl (cLI (pc := 89) h dX0_tryFrom_89 (kCi (pc := 91) h (kd_X0_126 h dX0_tryFrom_91) spX11_has (by omega) (by decide) (by decide) (by decide) (jEq (pc := 94) h dX0_tryFrom_94 rfl (k73) (cLa (pc := 97) h dX0_tryFrom_97 rfl (gGf (pc := 98) h dX0_tryFrom_98 ff_X0_18_68 (Nat.le_of_ble_eq_true rfl) (Nat.le_of_ble_eq_true rfl) rfl (cLi (pc := 101) h dX0_tryFrom_101 rfl (cLI (pc := 102) h dX0_tryFrom_102 (rWi (pc := 104) h dX0_tryFrom_104 rfl (Nat.le_of_ble_eq_true rfl) (Nat.le_of_ble_eq_true rfl) (cLa (pc := 105) h dX0_tryFrom_105 rfl (gGf (pc := 106) h dX0_tryFrom_106 ff_X0_55_68 (Nat.le_of_ble_eq_true rfl) (Nat.le_of_ble_eq_true rfl) rfl (cLi (pc := 109) h dX0_tryFrom_109 rfl (cLI (pc := 110) h dX0_tryFrom_110 (kCv (pc := 112) h (kd_X0_101 h dX0_tryFrom_112) spX4_put (by omega) (by decide) (by decide) (by decide) (cLa (pc := 115) h dX0_tryFrom_115 rfl (cLi (pc := 116) h dX0_tryFrom_116 rfl (cC (pc := 117) h dX0_tryFrom_117 rfl (aAdd (pc := 118) h dX0_tryFrom_118 (kCv (pc := 119) h (kd_X0_111 h dX0_tryFrom_119) hG hdG (by decide) (by decide) (by decide) (cLa (pc := 122) h dX0_tryFrom_122 rfl (gGf (pc := 123) h dX0_tryFrom_123 ff_X0_55_68 (Nat.le_of_ble_eq_true rfl) (Nat.le_of_ble_eq_true rfl) rfl (cLi (pc := 126) h dX0_tryFrom_126 rfl (kCi (pc := 127) h (kd_X0_114 h dX0_tryFrom_127) spX4_take (by omega) (by decide) (by decide) (by decide) (aPop (pc := 130) h dX0_tryFrom_130 (k73)))))))))))))))))))))))))))
set_option maxRecDepth 20000 in
theorem lX0_tryFrom_46 (G : qG Unit) (n : Nat) (a1 : Int32) (a2 : Int32) (a3 : Int32) (a4 : Int32) (m : qM) : tX0_tryFrom_46 G (wX0_tryFrom_73 (fX0_tryFrom_73 G (fX0_tryFrom_46 G n))) [some (.ref 68), some (.int a1), some (.int a2), some (.int a3), some (.int a4)] [] m = fX0_tryFrom_46 G (n + 1) a1 a2 a3 a4 m := rfl
theorem bX0_tryFrom_46 {C : qCx} {w : qWp} {dp dG : Nat} {G : qG Unit} (h : qOk C w RX0 cX0_tryFrom 5 dp 155 155) (hm : qMt C none) (hx : qNx C) (hG : qSpV yX0_tryFrom (.code yX0_tryFrom cX0_tryFrom 5 none) dG qfin 155 155 1 G) (hdG : dG + 1 ≤ dp) (hdp : 4 ≤ dp) : ∀ n : Nat, qSnd C w 5 155 (qQf C w 155 155 jV) qfin 155 81 (wX0_tryFrom_46 (fX0_tryFrom_46 G n))
  | 0 => qSnd_of0 (fun lo st m x hr0 => by
    unfold wX0_tryFrom_46 at hr0
    split at hr0
    · cases hr0
    · cases hr0)
  | n + 1 => by
    have ih := bX0_tryFrom_46 h hm hx hG hdG hdp n
    exact qSnd_of (fun lo st m x hr0 => by
    unfold wX0_tryFrom_46 at hr0
    split at hr0
    · exact ⟨_, (qsub_e (qsub_e (qsub_e (qsub_e (qsub_e qsub_nil))))), (lX0_tryFrom_46 _ n _ _ _ _ _).trans hr0⟩
    · cases hr0) (sX0_tryFrom_46 h hm hx hG hdG hdp (bX0_tryFrom_73 h hm hx hG hdG hdp ih))
noncomputable def tX0_tryFrom_0 (G : qG Unit) (j46 : qT (Unit × qM)) : qT (Unit × qM) :=
  oLa 0 (oGf 68 1 58 (oCl GX4_worth 1 (oLa 0 (oGf 68 6 73 (oLi 1 (oAl 73 5 (oJJ (· + ·) (oLa 0 (oGl 68 9 (oLcmp (oGt (oLi 1 (oLa 0 (oGi 68 7 (oCLt (oLa 0 (oGf 68 2 69 (oLi 1 (oAi 69 4 (oSi 2 (oLa 0 (oGf 68 1 58 (oLi 2 (oCi GX4_openSlots 2 (oLa 0 (oGi 68 8 (o2 (· &&& ·) (oSi 3 (oC (.int (0 : Int32)) (oSi 4 (j46)))))))))))))))) (oLa 0 (oLa 0 (oGf 68 1 58 (oCl GX4_worth 1 (oPl 68 9 (oLa 0 (oGf 68 4 71 (oC (.int (0 : Int32)) (oLa 0 (oGf 68 5 72 (oC (.int (0 : Int32)) (oC (.int (4 : Int32)) (oCopy 71 72 4 4 (eV)))))))))))))))))) (eV))))))))))))
set_option maxRecDepth 20000 in
theorem sX0_tryFrom_0 {C : qCx} {w : qWp} {dp dG : Nat} {G : qG Unit} (h : qOk C w RX0 cX0_tryFrom 5 dp 155 155) (hm : qMt C none) (hx : qNx C) (hG : qSpV yX0_tryFrom (.code yX0_tryFrom cX0_tryFrom 5 none) dG qfin 155 155 1 G) (hdG : dG + 1 ≤ dp) (hdp : 4 ≤ dp) {j46 : qT (Unit × qM)} (k46 : qSnd C w 5 155 (qQf C w 155 155 jV) qfin 155 81 j46) : qSnd C w 5 155 (qQf C w 155 155 jV) qfin 155 0 (tX0_tryFrom_0 G j46) :=
  cLa (pc := 0) h dX0_tryFrom_0 rfl (gGf (pc := 1) h dX0_tryFrom_1 ff_X0_55_68 (Nat.le_of_ble_eq_true rfl) (Nat.le_of_ble_eq_true rfl) rfl (kCl (pc := 4) h (kd_X0_140 h dX0_tryFrom_4) spX4_worth (by omega) (by decide) (by decide) (by decide) (cLa (pc := 7) h dX0_tryFrom_7 rfl (gGf (pc := 8) h dX0_tryFrom_8 ff_X0_24_68 (Nat.le_of_ble_eq_true rfl) (Nat.le_of_ble_eq_true rfl) rfl (cLi (pc := 11) h dX0_tryFrom_11 rfl (rAl (pc := 12) h dX0_tryFrom_12 rfl (Nat.le_of_ble_eq_true rfl) (Nat.le_of_ble_eq_true rfl) (aLadd (pc := 13) h dX0_tryFrom_13 (cLa (pc := 14) h dX0_tryFrom_14 rfl (gGl (pc := 15) h dX0_tryFrom_15 ff_X0_35_68 (Nat.le_of_ble_eq_true rfl) (Nat.le_of_ble_eq_true rfl) (aLcmp (pc := 18) h dX0_tryFrom_18 (jGt (pc := 19) h dX0_tryFrom_19 rfl (cLi (pc := 23) h dX0_tryFrom_23 rfl (cLa (pc := 24) h dX0_tryFrom_24 rfl (gGi (pc := 25) h dX0_tryFrom_25 ff_X0_28_68 (Nat.le_of_ble_eq_true rfl) (Nat.le_of_ble_eq_true rfl) (jCLt (pc := 28) h dX0_tryFrom_28 rfl (cLa (pc := 57) h dX0_tryFrom_57 rfl (gGf (pc := 58) h dX0_tryFrom_58 ff_X0_9_68 (Nat.le_of_ble_eq_true rfl) (Nat.le_of_ble_eq_true rfl) rfl (cLi (pc := 61) h dX0_tryFrom_61 rfl (rAi (pc := 62) h dX0_tryFrom_62 rfl (Nat.le_of_ble_eq_true rfl) (Nat.le_of_ble_eq_true rfl) (cSi (pc := 63) h dX0_tryFrom_63 rfl (cLa (pc := 64) h dX0_tryFrom_64 rfl (gGf (pc := 65) h dX0_tryFrom_65 ff_X0_55_68 (Nat.le_of_ble_eq_true rfl) (Nat.le_of_ble_eq_true rfl) rfl (cLi (pc := 68) h dX0_tryFrom_68 rfl (kCi (pc := 69) h (kd_X0_92 h dX0_tryFrom_69) spX4_openSlots (by omega) (by decide) (by decide) (by decide) (cLa (pc := 72) h dX0_tryFrom_72 rfl (gGi (pc := 73) h dX0_tryFrom_73 ff_X0_32_68 (Nat.le_of_ble_eq_true rfl) (Nat.le_of_ble_eq_true rfl) (aAnd (pc := 76) h dX0_tryFrom_76 (cSi (pc := 77) h dX0_tryFrom_77 rfl (cC (pc := 78) h dX0_tryFrom_78 rfl (cSI (pc := 79) h dX0_tryFrom_79 (k46)))))))))))))))) (cLa (pc := 31) h dX0_tryFrom_31 rfl (cLa (pc := 32) h dX0_tryFrom_32 rfl (gGf (pc := 33) h dX0_tryFrom_33 ff_X0_55_68 (Nat.le_of_ble_eq_true rfl) (Nat.le_of_ble_eq_true rfl) rfl (kCl (pc := 36) h (kd_X0_140 h dX0_tryFrom_36) spX4_worth (by omega) (by decide) (by decide) (by decide) (gPl (pc := 39) h dX0_tryFrom_39 ff_X0_35_68 (Or.inl rfl) (Nat.le_of_ble_eq_true rfl) (Nat.le_of_ble_eq_true rfl) (cLa (pc := 42) h dX0_tryFrom_42 rfl (gGf (pc := 43) h dX0_tryFrom_43 ff_X0_18_68 (Nat.le_of_ble_eq_true rfl) (Nat.le_of_ble_eq_true rfl) rfl (cC (pc := 46) h dX0_tryFrom_46 rfl (cLa (pc := 47) h dX0_tryFrom_47 rfl (gGf (pc := 48) h dX0_tryFrom_48 ff_X0_21_68 (Nat.le_of_ble_eq_true rfl) (Nat.le_of_ble_eq_true rfl) rfl (cC (pc := 51) h dX0_tryFrom_51 rfl (cC (pc := 52) h dX0_tryFrom_52 rfl (nCopy (pc := 53) h dX0_tryFrom_53 fy_X0_144 fy_nat fy_stat fy_init rfl rfl (Nat.le_of_ble_eq_true rfl) (Nat.le_of_ble_eq_true rfl) (Nat.le_of_ble_eq_true rfl) (by omega) (zV (pc := 56) h hm (Nat.le_refl _) dX0_tryFrom_56)))))))))))))))))) (zV (pc := 22) h hm (Nat.le_refl _) dX0_tryFrom_22))))))))))))
set_option maxRecDepth 20000 in
theorem lX0_tryFrom_0 (G : qG Unit) (a1 : Int32) (m : qM) : tX0_tryFrom_0 G (wX0_tryFrom_46 (fX0_tryFrom_46 G FU)) [some (.ref 68), some (.int a1), none, none, none] [] m = fX0_tryFrom_0 G a1 m := rfl
theorem spX0_tryFrom : ∀ n : Nat, qSpV yX0_tryFrom (.code yX0_tryFrom cX0_tryFrom 5 none) (4 + n) qfin 155 155 1 (GX0_tryFrom n)
  | 0 => fun av m m2 hG => by cases hG
  | n + 1 => by
    have ih := spX0_tryFrom n
    intro av m m' hG
    unfold GX0_tryFrom at hG
    split at hG
    · rename_i a1
      exact ⟨qmeet (J := jV) (r := ((), m')) (av := [.ref 68, .int a1]) (by decide +kernel) (Nat.le_refl _) (fun C w h hm hx hn => sX0_tryFrom_0 h hm hx ih (Nat.le_refl _) (by omega) (bX0_tryFrom_46 h hm hx ih (Nat.le_refl _) (by omega) FU)) ((lX0_tryFrom_0 _ _ _).trans hG) (Nat.le_of_ble_eq_true rfl), Or.inl ⟨68, _, 0, _, _, rfl, by decide, rfl, qCk_0, rfl⟩⟩
    · cases hG
theorem fc_X0_109 : Jvm.Cond.constantLong RX0 109 (-1 : Int64) ∈ qTw := qm4 (List.mem_of_getElem? (i := 211) (by decide +kernel)) (by decide +kernel)
theorem im_X0_hopeOf : Jvm.Cond.instanceMethod yX0_hopeOf ∈ qTw := qm4 (List.mem_of_getElem? (i := 194) (by decide +kernel)) (by decide +kernel)
theorem se_X0_hopeOf : Jvm.Cond.selects yX0_hopeOf.cls yX0_hopeOf yX0_hopeOf ∈ qTw := List.mem_filter.mpr ⟨List.mem_append_left _ (List.mem_of_getElem? (i := 12) (by decide +kernel)), rfl⟩
theorem co_X0_hopeOf : Jvm.Cond.code yX0_hopeOf cX0_hopeOf 7 (some .long) ∈ qTw := qm4 (List.mem_of_getElem? (i := 195) (by decide +kernel)) (by decide +kernel)
theorem yk_X0_hopeOf : qYk yX0_hopeOf 1 := ⟨⟨by decide +kernel, by decide +kernel⟩, by decide +kernel⟩
theorem ml_X0_105 : Jvm.Cond.methodLink RX0 105 yX0_hopeOf ∈ qTw := qm4 (List.mem_of_getElem? (i := 192) (by decide +kernel)) (by decide +kernel)
theorem kd_X0_105 {C : qCx} {w : qWp} {cc : ByteArray} {nL dp n0 n1 pc : Nat} (h : qOk C w RX0 cc nL dp n0 n1) (d : decode cc pc = .ok (.invokevirtual 105, 3)) : qCallOk C w nL dp n0 n1 pc 2 1 yX0_hopeOf (.code yX0_hopeOf cX0_hopeOf 7 (some .long)) := kindV h d ml_X0_105 im_X0_hopeOf se_X0_hopeOf in_ParentEve_Chooser co_X0_hopeOf yk_X0_hopeOf (by decide)
theorem dX0_layPicked_0 : decode cX0_layPicked 0 = .ok (.aload_n 0, 1) := by decide +kernel
theorem dX0_layPicked_1 : decode cX0_layPicked 1 = .ok (.iload_n 1, 1) := by decide +kernel
theorem dX0_layPicked_2 : decode cX0_layPicked 2 = .ok (.putfield 32, 3) := by decide +kernel
theorem dX0_layPicked_5 : decode cX0_layPicked 5 = .ok (.aload_n 0, 1) := by decide +kernel
theorem dX0_layPicked_6 : decode cX0_layPicked 6 = .ok (.getfield 24, 3) := by decide +kernel
theorem dX0_layPicked_9 : decode cX0_layPicked 9 = .ok (.aload_n 0, 1) := by decide +kernel
theorem dX0_layPicked_10 : decode cX0_layPicked 10 = .ok (.getfield 28, 3) := by decide +kernel
theorem dX0_layPicked_13 : decode cX0_layPicked 13 = .ok (.lconst 0, 1) := by decide +kernel
theorem dX0_layPicked_14 : decode cX0_layPicked 14 = .ok (.lastore, 1) := by decide +kernel
theorem dX0_layPicked_15 : decode cX0_layPicked 15 = .ok (.aload_n 0, 1) := by decide +kernel
theorem dX0_layPicked_16 : decode cX0_layPicked 16 = .ok (.getfield 28, 3) := by decide +kernel
theorem dX0_layPicked_19 : decode cX0_layPicked 19 = .ok (.iconst 1, 1) := by decide +kernel
theorem dX0_layPicked_20 : decode cX0_layPicked 20 = .ok (.isub, 1) := by decide +kernel
theorem dX0_layPicked_21 : decode cX0_layPicked 21 = .ok (.istore_n 2, 1) := by decide +kernel
theorem dX0_layPicked_22 : decode cX0_layPicked 22 = .ok (.iload_n 2, 1) := by decide +kernel
theorem dX0_layPicked_23 : decode cX0_layPicked 23 = .ok (.ifCond .lt 29, 3) := by decide +kernel
theorem dX0_layPicked_26 : decode cX0_layPicked 26 = .ok (.aload_n 0, 1) := by decide +kernel
theorem dX0_layPicked_27 : decode cX0_layPicked 27 = .ok (.getfield 24, 3) := by decide +kernel
theorem dX0_layPicked_30 : decode cX0_layPicked 30 = .ok (.iload_n 2, 1) := by decide +kernel
theorem dX0_layPicked_31 : decode cX0_layPicked 31 = .ok (.aload_n 0, 1) := by decide +kernel
theorem dX0_layPicked_32 : decode cX0_layPicked 32 = .ok (.getfield 24, 3) := by decide +kernel
theorem dX0_layPicked_35 : decode cX0_layPicked 35 = .ok (.iload_n 2, 1) := by decide +kernel
theorem dX0_layPicked_36 : decode cX0_layPicked 36 = .ok (.iconst 1, 1) := by decide +kernel
theorem dX0_layPicked_37 : decode cX0_layPicked 37 = .ok (.iadd, 1) := by decide +kernel
theorem dX0_layPicked_38 : decode cX0_layPicked 38 = .ok (.laload, 1) := by decide +kernel
theorem dX0_layPicked_39 : decode cX0_layPicked 39 = .ok (.aload_n 0, 1) := by decide +kernel
theorem dX0_layPicked_40 : decode cX0_layPicked 40 = .ok (.iload_n 2, 1) := by decide +kernel
theorem dX0_layPicked_41 : decode cX0_layPicked 41 = .ok (.invokevirtual 105, 3) := by decide +kernel
theorem dX0_layPicked_44 : decode cX0_layPicked 44 = .ok (.ladd, 1) := by decide +kernel
theorem dX0_layPicked_45 : decode cX0_layPicked 45 = .ok (.lastore, 1) := by decide +kernel
theorem dX0_layPicked_46 : decode cX0_layPicked 46 = .ok (.iinc 2 (-1), 3) := by decide +kernel
theorem dX0_layPicked_49 : decode cX0_layPicked 49 = .ok (.goto (-27), 3) := by decide +kernel
theorem dX0_layPicked_52 : decode cX0_layPicked 52 = .ok (.aload_n 0, 1) := by decide +kernel
theorem dX0_layPicked_53 : decode cX0_layPicked 53 = .ok (.ldc2_w 109, 3) := by decide +kernel
theorem dX0_layPicked_56 : decode cX0_layPicked 56 = .ok (.putfield 35, 3) := by decide +kernel
theorem dX0_layPicked_59 : decode cX0_layPicked 59 = .ok (.aload_n 0, 1) := by decide +kernel
theorem dX0_layPicked_60 : decode cX0_layPicked 60 = .ok (.iconst 0, 1) := by decide +kernel
theorem dX0_layPicked_61 : decode cX0_layPicked 61 = .ok (.invokevirtual 111, 3) := by decide +kernel
theorem dX0_layPicked_64 : decode cX0_layPicked 64 = .ok (.iconst 0, 1) := by decide +kernel
theorem dX0_layPicked_65 : decode cX0_layPicked 65 = .ok (.istore_n 2, 1) := by decide +kernel
theorem dX0_layPicked_66 : decode cX0_layPicked 66 = .ok (.iconst 0, 1) := by decide +kernel
theorem dX0_layPicked_67 : decode cX0_layPicked 67 = .ok (.istore_n 3, 1) := by decide +kernel
theorem dX0_layPicked_68 : decode cX0_layPicked 68 = .ok (.iload_n 3, 1) := by decide +kernel
theorem dX0_layPicked_69 : decode cX0_layPicked 69 = .ok (.aload_n 0, 1) := by decide +kernel
theorem dX0_layPicked_70 : decode cX0_layPicked 70 = .ok (.getfield 28, 3) := by decide +kernel
theorem dX0_layPicked_73 : decode cX0_layPicked 73 = .ok (.if_icmp .ge 42, 3) := by decide +kernel
theorem dX0_layPicked_76 : decode cX0_layPicked 76 = .ok (.aload_n 0, 1) := by decide +kernel
theorem dX0_layPicked_77 : decode cX0_layPicked 77 = .ok (.getfield 21, 3) := by decide +kernel
theorem dX0_layPicked_80 : decode cX0_layPicked 80 = .ok (.iload_n 3, 1) := by decide +kernel
theorem dX0_layPicked_81 : decode cX0_layPicked 81 = .ok (.iaload, 1) := by decide +kernel
theorem dX0_layPicked_82 : decode cX0_layPicked 82 = .ok (.bipush 20, 2) := by decide +kernel
theorem dX0_layPicked_84 : decode cX0_layPicked 84 = .ok (.if_icmp .ge 25, 3) := by decide +kernel
theorem dX0_layPicked_87 : decode cX0_layPicked 87 = .ok (.aload_n 0, 1) := by decide +kernel
theorem dX0_layPicked_88 : decode cX0_layPicked 88 = .ok (.getfield 55, 3) := by decide +kernel
theorem dX0_layPicked_91 : decode cX0_layPicked 91 = .ok (.aload_n 0, 1) := by decide +kernel
theorem dX0_layPicked_92 : decode cX0_layPicked 92 = .ok (.getfield 9, 3) := by decide +kernel
theorem dX0_layPicked_95 : decode cX0_layPicked 95 = .ok (.iload_n 3, 1) := by decide +kernel
theorem dX0_layPicked_96 : decode cX0_layPicked 96 = .ok (.iaload, 1) := by decide +kernel
theorem dX0_layPicked_97 : decode cX0_layPicked 97 = .ok (.aload_n 0, 1) := by decide +kernel
theorem dX0_layPicked_98 : decode cX0_layPicked 98 = .ok (.getfield 21, 3) := by decide +kernel
theorem dX0_layPicked_101 : decode cX0_layPicked 101 = .ok (.iload_n 3, 1) := by decide +kernel
theorem dX0_layPicked_102 : decode cX0_layPicked 102 = .ok (.iaload, 1) := by decide +kernel
theorem dX0_layPicked_103 : decode cX0_layPicked 103 = .ok (.invokevirtual 101, 3) := by decide +kernel
theorem dX0_layPicked_106 : decode cX0_layPicked 106 = .ok (.iinc 2 1, 3) := by decide +kernel
theorem dX0_layPicked_109 : decode cX0_layPicked 109 = .ok (.iinc 3 1, 3) := by decide +kernel
theorem dX0_layPicked_112 : decode cX0_layPicked 112 = .ok (.goto (-44), 3) := by decide +kernel
theorem dX0_layPicked_115 : decode cX0_layPicked 115 = .ok (.iload_n 2, 1) := by decide +kernel
theorem dX0_layPicked_116 : decode cX0_layPicked 116 = .ok (.ireturn, 1) := by decide +kernel
noncomputable def tX0_layPicked_14 (j42 : qT (Int32 × qM)) (j14 : qT (Int32 × qM)) : qT (Int32 × qM) :=
  oLi 2 (oLt (oLa 0 (oC (.long (-1 : Int64)) (oPl 68 9 (oLa 0 (oC (.int (0 : Int32)) (oCv (GX0_tryFrom FG) 2 (oC (.int (0 : Int32)) (oSi 2 (oC (.int (0 : Int32)) (oSi 3 (j42))))))))))) (oLa 0 (oGf 68 6 73 (oLi 2 (oLa 0 (oGf 68 6 73 (oLi 2 (oC (.int (1 : Int32)) (o2 (· + ·) (oAl 73 5 (oLa 0 (oLi 2 (oCl GX0_hopeOf 2 (oJJ (· + ·) (oWl 73 5 (oInc 2 (-1 : Int32) (j14)))))))))))))))))
noncomputable def wX0_layPicked_14 (k : Int32 → qM → Option (Int32 × qM)) : qT (Int32 × qM) := fun lo st m => match lo, st with
  | [some (.ref 68), _, some (.int a2), _], [] => k a2 m
  | _, _ => none
noncomputable def wX0_layPicked_42 (k : Int32 → Int32 → qM → Option (Int32 × qM)) : qT (Int32 × qM) := fun lo st m => match lo, st with
  | [some (.ref 68), _, some (.int a2), some (.int a3)], [] => k a2 a3 m
  | _, _ => none
set_option maxRecDepth 20000 in
theorem sX0_layPicked_14 {C : qCx} {w : qWp} (h : qOk C w RX0 cX0_layPicked 4 13 155 155) (hm : qMt C (some .int)) (hx : qNx C) {j42 : qT (Int32 × qM)} {j14 : qT (Int32 × qM)} (k42 : qSnd C w 4 155 (qQf C w 155 155 jI) qfin 155 68 j42) (k14 : qSnd C w 4 155 (qQf C w 155 155 jI) qfin 155 22 j14) : qSnd C w 4 155 (qQf C w 155 155 jI) qfin 155 22 (tX0_layPicked_14 j42 j14) :=
  cLi (pc := 22) h dX0_layPicked_22 rfl (jLt (pc := 23) h dX0_layPicked_23 rfl (cLa (pc := 52) h dX0_layPicked_52 rfl (cKJ (pc := 53) h dX0_layPicked_53 fc_X0_109 (gPl (pc := 56) h dX0_layPicked_56 ff_X0_35_68 (Or.inl rfl) (Nat.le_of_ble_eq_true rfl) (Nat.le_of_ble_eq_true rfl) (cLa (pc := 59) h dX0_layPicked_59 rfl (cC (pc := 60) h dX0_layPicked_60 rfl (kCv (pc := 61) h (kd_X0_111 h dX0_layPicked_61) (spX0_tryFrom FG) (by rw [FG_d]; decide) (by decide) (by decide) (by decide) (cC (pc := 64) h dX0_layPicked_64 rfl (cSi (pc := 65) h dX0_layPicked_65 rfl (cC (pc := 66) h dX0_layPicked_66 rfl (cSi (pc := 67) h dX0_layPicked_67 rfl (k42))))))))))) (cLa (pc := 26) h dX0_layPicked_26 rfl (gGf (pc := 27) h dX0_layPicked_27 ff_X0_24_68 (Nat.le_of_ble_eq_true rfl) (Nat.le_of_ble_eq_true rfl) rfl (cLi (pc := 30) h dX0_layPicked_30 rfl (cLa (pc := 31) h dX0_layPicked_31 rfl (gGf (pc := 32) h dX0_layPicked_32 ff_X0_24_68 (Nat.le_of_ble_eq_true rfl) (Nat.le_of_ble_eq_true rfl) rfl (cLi (pc := 35) h dX0_layPicked_35 rfl (cC (pc := 36) h dX0_layPicked_36 rfl (aAdd (pc := 37) h dX0_layPicked_37 (rAl (pc := 38) h dX0_layPicked_38 rfl (Nat.le_of_ble_eq_true rfl) (Nat.le_of_ble_eq_true rfl) (cLa (pc := 39) h dX0_layPicked_39 rfl (cLi (pc := 40) h dX0_layPicked_40 rfl (kCl (pc := 41) h (kd_X0_105 h dX0_layPicked_41) spX0_hopeOf (by decide) (by decide) (by decide) (by decide) (aLadd (pc := 44) h dX0_layPicked_44 (rWl (pc := 45) h dX0_layPicked_45 rfl (Nat.le_of_ble_eq_true rfl) (Nat.le_of_ble_eq_true rfl) (cInc (pc := 46) h dX0_layPicked_46 rfl (jGo (pc := 49) h dX0_layPicked_49 rfl (k14))))))))))))))))))
set_option maxRecDepth 20000 in
theorem lX0_layPicked_14 (k42 : Int32 → Int32 → qM → Option (Int32 × qM)) (n : Nat) (a2 : Int32) (m : qM) : tX0_layPicked_14 (wX0_layPicked_42 k42) (wX0_layPicked_14 ((fX0_layPicked_14 k42 n))) [some (.ref 68), none, some (.int a2), none] [] m = fX0_layPicked_14 k42 (n + 1) a2 m := rfl
theorem bX0_layPicked_14 {C : qCx} {w : qWp} (h : qOk C w RX0 cX0_layPicked 4 13 155 155) (hm : qMt C (some .int)) (hx : qNx C) {k42 : Int32 → Int32 → qM → Option (Int32 × qM)} (h42 : qSnd C w 4 155 (qQf C w 155 155 jI) qfin 155 68 (wX0_layPicked_42 k42)) : ∀ n : Nat, qSnd C w 4 155 (qQf C w 155 155 jI) qfin 155 22 (wX0_layPicked_14 (fX0_layPicked_14 k42 n))
  | 0 => qSnd_of0 (fun lo st m x hr0 => by
    unfold wX0_layPicked_14 at hr0
    split at hr0
    · cases hr0
    · cases hr0)
  | n + 1 => by
    have ih := bX0_layPicked_14 h hm hx h42 n
    exact qSnd_of (fun lo st m x hr0 => by
    unfold wX0_layPicked_14 at hr0
    split at hr0
    · exact ⟨_, (qsub_e (qsub_n (qsub_e (qsub_n qsub_nil)))), (lX0_layPicked_14 _ n _ _).trans hr0⟩
    · cases hr0) (sX0_layPicked_14 h hm hx h42 ih)
noncomputable def tX0_layPicked_64 (j42 : qT (Int32 × qM)) : qT (Int32 × qM) :=
  oInc 3 (1 : Int32) (j42)
noncomputable def wX0_layPicked_64 (k : Int32 → Int32 → qM → Option (Int32 × qM)) : qT (Int32 × qM) := fun lo st m => match lo, st with
  | [some (.ref 68), _, some (.int a2), some (.int a3)], [] => k a2 a3 m
  | _, _ => none
set_option maxRecDepth 20000 in
theorem sX0_layPicked_64 {C : qCx} {w : qWp} (h : qOk C w RX0 cX0_layPicked 4 13 155 155) (hm : qMt C (some .int)) (hx : qNx C) {j42 : qT (Int32 × qM)} (k42 : qSnd C w 4 155 (qQf C w 155 155 jI) qfin 155 68 j42) : qSnd C w 4 155 (qQf C w 155 155 jI) qfin 155 109 (tX0_layPicked_64 j42) :=
  cInc (pc := 109) h dX0_layPicked_109 rfl (jGo (pc := 112) h dX0_layPicked_112 rfl (k42))
set_option maxRecDepth 20000 in
theorem lX0_layPicked_64 (k42 : Int32 → Int32 → qM → Option (Int32 × qM)) (a2 : Int32) (a3 : Int32) (m : qM) : tX0_layPicked_64 (wX0_layPicked_42 k42) [some (.ref 68), none, some (.int a2), some (.int a3)] [] m = fX0_layPicked_64 k42 a2 a3 m := rfl
theorem bX0_layPicked_64 {C : qCx} {w : qWp} (h : qOk C w RX0 cX0_layPicked 4 13 155 155) (hm : qMt C (some .int)) (hx : qNx C) {k42 : Int32 → Int32 → qM → Option (Int32 × qM)} (h42 : qSnd C w 4 155 (qQf C w 155 155 jI) qfin 155 68 (wX0_layPicked_42 k42)) : qSnd C w 4 155 (qQf C w 155 155 jI) qfin 155 109 (wX0_layPicked_64 (fX0_layPicked_64 k42)) :=
  qSnd_of (fun lo st m x hr0 => by
    unfold wX0_layPicked_64 at hr0
    split at hr0
    · exact ⟨_, (qsub_e (qsub_n (qsub_e (qsub_e qsub_nil)))), (lX0_layPicked_64 _ _ _ _).trans hr0⟩
    · cases hr0) (sX0_layPicked_64 h hm hx h42)
noncomputable def tX0_layPicked_42 (j64 : qT (Int32 × qM)) : qT (Int32 × qM) :=
  oLi 3 (oLa 0 (oGi 68 7 (oCGe (oLi 2 (eI)) (oLa 0 (oGf 68 5 72 (oLi 3 (oAi 72 4 (oC (.int (20 : Int32)) (oCGe (j64) (oLa 0 (oGf 68 1 58 (oLa 0 (oGf 68 2 69 (oLi 3 (oAi 69 4 (oLa 0 (oGf 68 5 72 (oLi 3 (oAi 72 4 (oCv GX4_put 3 (oInc 2 (1 : Int32) (j64))))))))))))))))))))))
set_option maxRecDepth 20000 in
theorem sX0_layPicked_42 {C : qCx} {w : qWp} (h : qOk C w RX0 cX0_layPicked 4 13 155 155) (hm : qMt C (some .int)) (hx : qNx C) {j64 : qT (Int32 × qM)} (k64 : qSnd C w 4 155 (qQf C w 155 155 jI) qfin 155 109 j64) : qSnd C w 4 155 (qQf C w 155 155 jI) qfin 155 68 (tX0_layPicked_42 j64) :=
  cLi (pc := 68) h dX0_layPicked_68 rfl (cLa (pc := 69) h dX0_layPicked_69 rfl (gGi (pc := 70) h dX0_layPicked_70 ff_X0_28_68 (Nat.le_of_ble_eq_true rfl) (Nat.le_of_ble_eq_true rfl) (jCGe (pc := 73) h dX0_layPicked_73 rfl (cLi (pc := 115) h dX0_layPicked_115 rfl (zI (pc := 116) h hm (Nat.le_refl _) dX0_layPicked_116)) (cLa (pc := 76) h dX0_layPicked_76 rfl (gGf (pc := 77) h dX0_layPicked_77 ff_X0_21_68 (Nat.le_of_ble_eq_true rfl) (Nat.le_of_ble_eq_true rfl) rfl (cLi (pc := 80) h dX0_layPicked_80 rfl (rAi (pc := 81) h dX0_layPicked_81 rfl (Nat.le_of_ble_eq_true rfl) (Nat.le_of_ble_eq_true rfl) (cB (pc := 82) h dX0_layPicked_82 rfl (jCGe (pc := 84) h dX0_layPicked_84 rfl (k64) (cLa (pc := 87) h dX0_layPicked_87 rfl (gGf (pc := 88) h dX0_layPicked_88 ff_X0_55_68 (Nat.le_of_ble_eq_true rfl) (Nat.le_of_ble_eq_true rfl) rfl (cLa (pc := 91) h dX0_layPicked_91 rfl (gGf (pc := 92) h dX0_layPicked_92 ff_X0_9_68 (Nat.le_of_ble_eq_true rfl) (Nat.le_of_ble_eq_true rfl) rfl (cLi (pc := 95) h dX0_layPicked_95 rfl (rAi (pc := 96) h dX0_layPicked_96 rfl (Nat.le_of_ble_eq_true rfl) (Nat.le_of_ble_eq_true rfl) (cLa (pc := 97) h dX0_layPicked_97 rfl (gGf (pc := 98) h dX0_layPicked_98 ff_X0_21_68 (Nat.le_of_ble_eq_true rfl) (Nat.le_of_ble_eq_true rfl) rfl (cLi (pc := 101) h dX0_layPicked_101 rfl (rAi (pc := 102) h dX0_layPicked_102 rfl (Nat.le_of_ble_eq_true rfl) (Nat.le_of_ble_eq_true rfl) (kCv (pc := 103) h (kd_X0_101 h dX0_layPicked_103) spX4_put (by decide) (by decide) (by decide) (by decide) (cInc (pc := 106) h dX0_layPicked_106 rfl (k64))))))))))))))))))))))
set_option maxRecDepth 20000 in
theorem lX0_layPicked_42 (n : Nat) (a2 : Int32) (a3 : Int32) (m : qM) : tX0_layPicked_42 (wX0_layPicked_64 (fX0_layPicked_64 (fX0_layPicked_42 n))) [some (.ref 68), none, some (.int a2), some (.int a3)] [] m = fX0_layPicked_42 (n + 1) a2 a3 m := rfl
theorem bX0_layPicked_42 {C : qCx} {w : qWp} (h : qOk C w RX0 cX0_layPicked 4 13 155 155) (hm : qMt C (some .int)) (hx : qNx C) : ∀ n : Nat, qSnd C w 4 155 (qQf C w 155 155 jI) qfin 155 68 (wX0_layPicked_42 (fX0_layPicked_42 n))
  | 0 => qSnd_of0 (fun lo st m x hr0 => by
    unfold wX0_layPicked_42 at hr0
    split at hr0
    · cases hr0
    · cases hr0)
  | n + 1 => by
    have ih := bX0_layPicked_42 h hm hx n
    exact qSnd_of (fun lo st m x hr0 => by
    unfold wX0_layPicked_42 at hr0
    split at hr0
    · exact ⟨_, (qsub_e (qsub_n (qsub_e (qsub_e qsub_nil)))), (lX0_layPicked_42 n _ _ _).trans hr0⟩
    · cases hr0) (sX0_layPicked_42 h hm hx (bX0_layPicked_64 h hm hx ih))
noncomputable def tX0_layPicked_0 (j14 : qT (Int32 × qM)) : qT (Int32 × qM) :=
  oLa 0 (oLi 1 (oPi 68 8 (oLa 0 (oGf 68 6 73 (oLa 0 (oGi 68 7 (oC (.long (0 : Int64)) (oWl 73 5 (oLa 0 (oGi 68 7 (oC (.int (1 : Int32)) (o2 (· - ·) (oSi 2 (j14))))))))))))))
set_option maxRecDepth 20000 in
theorem sX0_layPicked_0 {C : qCx} {w : qWp} (h : qOk C w RX0 cX0_layPicked 4 13 155 155) (hm : qMt C (some .int)) (hx : qNx C) {j14 : qT (Int32 × qM)} (k14 : qSnd C w 4 155 (qQf C w 155 155 jI) qfin 155 22 j14) : qSnd C w 4 155 (qQf C w 155 155 jI) qfin 155 0 (tX0_layPicked_0 j14) :=
  cLa (pc := 0) h dX0_layPicked_0 rfl (cLi (pc := 1) h dX0_layPicked_1 rfl (gPi (pc := 2) h dX0_layPicked_2 ff_X0_32_68 (Or.inl rfl) (Nat.le_of_ble_eq_true rfl) (Nat.le_of_ble_eq_true rfl) (cLa (pc := 5) h dX0_layPicked_5 rfl (gGf (pc := 6) h dX0_layPicked_6 ff_X0_24_68 (Nat.le_of_ble_eq_true rfl) (Nat.le_of_ble_eq_true rfl) rfl (cLa (pc := 9) h dX0_layPicked_9 rfl (gGi (pc := 10) h dX0_layPicked_10 ff_X0_28_68 (Nat.le_of_ble_eq_true rfl) (Nat.le_of_ble_eq_true rfl) (cJ (pc := 13) h dX0_layPicked_13 rfl (rWl (pc := 14) h dX0_layPicked_14 rfl (Nat.le_of_ble_eq_true rfl) (Nat.le_of_ble_eq_true rfl) (cLa (pc := 15) h dX0_layPicked_15 rfl (gGi (pc := 16) h dX0_layPicked_16 ff_X0_28_68 (Nat.le_of_ble_eq_true rfl) (Nat.le_of_ble_eq_true rfl) (cC (pc := 19) h dX0_layPicked_19 rfl (aSub (pc := 20) h dX0_layPicked_20 (cSi (pc := 21) h dX0_layPicked_21 rfl (k14))))))))))))))
set_option maxRecDepth 20000 in
theorem lX0_layPicked_0 (a1 : Int32) (m : qM) : tX0_layPicked_0 (wX0_layPicked_14 (fX0_layPicked_14 (fX0_layPicked_42 FU) FU)) [some (.ref 68), some (.int a1), none, none] [] m = fX0_layPicked_0 a1 m := rfl
noncomputable def GX0_layPicked : qG Int32 := fun av m => match av with
  | [.ref 68, .int a1] => fX0_layPicked a1 m
  | _ => none
theorem spX0_layPicked : qSpI yX0_layPicked (.code yX0_layPicked cX0_layPicked 4 (some .int)) 13 qfin 155 155 1 GX0_layPicked := by
  intro av m x m' hG
  unfold GX0_layPicked at hG
  split at hG
  · rename_i a1
    rw [fX0_layPicked_d] at hG
    exact ⟨qmeet (J := jI) (r := (x, m')) (av := [.ref 68, .int a1]) (by decide +kernel) (Nat.le_of_ble_eq_true rfl) (fun C w h hm hx hn => sX0_layPicked_0 h hm hx (bX0_layPicked_14 h hm hx (bX0_layPicked_42 h hm hx FU) FU)) ((lX0_layPicked_0 _ _).trans hG) (Nat.le_of_ble_eq_true rfl), Or.inl ⟨68, _, 0, _, _, rfl, by decide, rfl, qCk_0, rfl⟩⟩
  · cases hG
theorem dX4_slotOf_0 : decode cX4_slotOf 0 = .ok (.aload_n 0, 1) := by decide +kernel
theorem dX4_slotOf_1 : decode cX4_slotOf 1 = .ok (.getfield 22, 3) := by decide +kernel
theorem dX4_slotOf_4 : decode cX4_slotOf 4 = .ok (.iload_n 1, 1) := by decide +kernel
theorem dX4_slotOf_5 : decode cX4_slotOf 5 = .ok (.iaload, 1) := by decide +kernel
theorem dX4_slotOf_6 : decode cX4_slotOf 6 = .ok (.ireturn, 1) := by decide +kernel
noncomputable def tX4_slotOf_0 : qT (Int32 × qM) :=
  oLa 0 (oGf 58 5 62 (oLi 1 (oAi 62 40 (eI))))
set_option maxRecDepth 20000 in
theorem sX4_slotOf_0 {C : qCx} {w : qWp} (h : qOk C w RX4 cX4_slotOf 2 0 155 155) (hm : qMt C (some .int)) (hx : qNx C) : qSnd C w 2 155 (qQf C w 155 155 jI) qfin 155 0 (tX4_slotOf_0) :=
  cLa (pc := 0) h dX4_slotOf_0 rfl (gGf (pc := 1) h dX4_slotOf_1 ff_X4_22_58 (Nat.le_of_ble_eq_true rfl) (Nat.le_of_ble_eq_true rfl) rfl (cLi (pc := 4) h dX4_slotOf_4 rfl (rAi (pc := 5) h dX4_slotOf_5 rfl (Nat.le_of_ble_eq_true rfl) (Nat.le_of_ble_eq_true rfl) (zI (pc := 6) h hm (Nat.le_refl _) dX4_slotOf_6))))
set_option maxRecDepth 20000 in
theorem lX4_slotOf_0 (a1 : Int32) (m : qM) : tX4_slotOf_0 [some (.ref 58), some (.int a1)] [] m = fX4_slotOf_0 a1 m := rfl
noncomputable def GX4_slotOf : qG Int32 := fun av m => match av with
  | [.ref 58, .int a1] => fX4_slotOf a1 m
  | _ => none
theorem spX4_slotOf : qSpI yX4_slotOf (.code yX4_slotOf cX4_slotOf 2 (some .int)) 0 qfin 155 155 1 GX4_slotOf := by
  intro av m x m' hG
  unfold GX4_slotOf at hG
  split at hG
  · rename_i a1
    rw [fX4_slotOf_d] at hG
    exact ⟨qmeet (J := jI) (r := (x, m')) (av := [.ref 58, .int a1]) (by decide +kernel) (Nat.le_of_ble_eq_true rfl) (fun C w h hm hx hn => sX4_slotOf_0 h hm hx) ((lX4_slotOf_0 _ _).trans hG) (Nat.le_of_ble_eq_true rfl), Or.inl ⟨58, _, 4, _, _, rfl, by decide, rfl, qCk_4, rfl⟩⟩
  · cases hG
theorem im_X0_layPicked : Jvm.Cond.instanceMethod yX0_layPicked ∈ qTw := qm4 (List.mem_of_getElem? (i := 189) (by decide +kernel)) (by decide +kernel)
theorem se_X0_layPicked : Jvm.Cond.selects yX0_layPicked.cls yX0_layPicked yX0_layPicked ∈ qTw := qm4 (List.mem_of_getElem? (i := 190) (by decide +kernel)) (by decide +kernel)
theorem co_X0_layPicked : Jvm.Cond.code yX0_layPicked cX0_layPicked 4 (some .int) ∈ qTw := qm4 (List.mem_of_getElem? (i := 191) (by decide +kernel)) (by decide +kernel)
theorem yk_X0_layPicked : qYk yX0_layPicked 1 := ⟨⟨by decide +kernel, by decide +kernel⟩, by decide +kernel⟩
theorem ml_X0_117 : Jvm.Cond.methodLink RX0 117 yX0_layPicked ∈ qTw := qm6 (List.mem_of_getElem? (i := 55) (by decide +kernel)) (by decide +kernel)
theorem kd_X0_117 {C : qCx} {w : qWp} {cc : ByteArray} {nL dp n0 n1 pc : Nat} (h : qOk C w RX0 cc nL dp n0 n1) (d : decode cc pc = .ok (.invokevirtual 117, 3)) : qCallOk C w nL dp n0 n1 pc 2 1 yX0_layPicked (.code yX0_layPicked cX0_layPicked 4 (some .int)) := kindV h d ml_X0_117 im_X0_layPicked se_X0_layPicked in_ParentEve_Chooser co_X0_layPicked yk_X0_layPicked (by decide)
theorem im_X4_slotOf : Jvm.Cond.instanceMethod yX4_slotOf ∈ qTw := qm5 (List.mem_of_getElem? (i := 7) (by decide +kernel)) (by decide +kernel)
theorem se_X4_slotOf : Jvm.Cond.selects yX4_slotOf.cls yX4_slotOf yX4_slotOf ∈ qTw := qm5 (List.mem_of_getElem? (i := 8) (by decide +kernel)) (by decide +kernel)
theorem co_X4_slotOf : Jvm.Cond.code yX4_slotOf cX4_slotOf 2 (some .int) ∈ qTw := qm5 (List.mem_of_getElem? (i := 9) (by decide +kernel)) (by decide +kernel)
theorem yk_X4_slotOf : qYk yX4_slotOf 1 := ⟨⟨by decide +kernel, by decide +kernel⟩, by decide +kernel⟩
theorem ml_X0_120 : Jvm.Cond.methodLink RX0 120 yX4_slotOf ∈ qTw := qm5 (List.mem_of_getElem? (i := 6) (by decide +kernel)) (by decide +kernel)
theorem kd_X0_120 {C : qCx} {w : qWp} {cc : ByteArray} {nL dp n0 n1 pc : Nat} (h : qOk C w RX0 cc nL dp n0 n1) (d : decode cc pc = .ok (.invokevirtual 120, 3)) : qCallOk C w nL dp n0 n1 pc 2 1 yX4_slotOf (.code yX4_slotOf cX4_slotOf 2 (some .int)) := kindV h d ml_X0_120 im_X4_slotOf se_X4_slotOf in_ParentEve_Plan co_X4_slotOf yk_X4_slotOf (by decide)
theorem dX0_layPickedAnew_0 : decode cX0_layPickedAnew 0 = .ok (.iconst 0, 1) := by decide +kernel
theorem dX0_layPickedAnew_1 : decode cX0_layPickedAnew 1 = .ok (.istore_n 2, 1) := by decide +kernel
theorem dX0_layPickedAnew_2 : decode cX0_layPickedAnew 2 = .ok (.iload_n 2, 1) := by decide +kernel
theorem dX0_layPickedAnew_3 : decode cX0_layPickedAnew 3 = .ok (.aload_n 0, 1) := by decide +kernel
theorem dX0_layPickedAnew_4 : decode cX0_layPickedAnew 4 = .ok (.getfield 28, 3) := by decide +kernel
theorem dX0_layPickedAnew_7 : decode cX0_layPickedAnew 7 = .ok (.if_icmp .ge 28, 3) := by decide +kernel
theorem dX0_layPickedAnew_10 : decode cX0_layPickedAnew 10 = .ok (.aload_n 0, 1) := by decide +kernel
theorem dX0_layPickedAnew_11 : decode cX0_layPickedAnew 11 = .ok (.getfield 15, 3) := by decide +kernel
theorem dX0_layPickedAnew_14 : decode cX0_layPickedAnew 14 = .ok (.iload_n 2, 1) := by decide +kernel
theorem dX0_layPickedAnew_15 : decode cX0_layPickedAnew 15 = .ok (.aload_n 0, 1) := by decide +kernel
theorem dX0_layPickedAnew_16 : decode cX0_layPickedAnew 16 = .ok (.getfield 55, 3) := by decide +kernel
theorem dX0_layPickedAnew_19 : decode cX0_layPickedAnew 19 = .ok (.aload_n 0, 1) := by decide +kernel
theorem dX0_layPickedAnew_20 : decode cX0_layPickedAnew 20 = .ok (.getfield 9, 3) := by decide +kernel
theorem dX0_layPickedAnew_23 : decode cX0_layPickedAnew 23 = .ok (.iload_n 2, 1) := by decide +kernel
theorem dX0_layPickedAnew_24 : decode cX0_layPickedAnew 24 = .ok (.iaload, 1) := by decide +kernel
theorem dX0_layPickedAnew_25 : decode cX0_layPickedAnew 25 = .ok (.invokevirtual 114, 3) := by decide +kernel
theorem dX0_layPickedAnew_28 : decode cX0_layPickedAnew 28 = .ok (.iastore, 1) := by decide +kernel
theorem dX0_layPickedAnew_29 : decode cX0_layPickedAnew 29 = .ok (.iinc 2 1, 3) := by decide +kernel
theorem dX0_layPickedAnew_32 : decode cX0_layPickedAnew 32 = .ok (.goto (-30), 3) := by decide +kernel
theorem dX0_layPickedAnew_35 : decode cX0_layPickedAnew 35 = .ok (.aload_n 0, 1) := by decide +kernel
theorem dX0_layPickedAnew_36 : decode cX0_layPickedAnew 36 = .ok (.iload_n 1, 1) := by decide +kernel
theorem dX0_layPickedAnew_37 : decode cX0_layPickedAnew 37 = .ok (.invokevirtual 117, 3) := by decide +kernel
theorem dX0_layPickedAnew_40 : decode cX0_layPickedAnew 40 = .ok (.pop, 1) := by decide +kernel
theorem dX0_layPickedAnew_41 : decode cX0_layPickedAnew 41 = .ok (.iconst 0, 1) := by decide +kernel
theorem dX0_layPickedAnew_42 : decode cX0_layPickedAnew 42 = .ok (.istore_n 2, 1) := by decide +kernel
theorem dX0_layPickedAnew_43 : decode cX0_layPickedAnew 43 = .ok (.iconst 0, 1) := by decide +kernel
theorem dX0_layPickedAnew_44 : decode cX0_layPickedAnew 44 = .ok (.istore_n 3, 1) := by decide +kernel
theorem dX0_layPickedAnew_45 : decode cX0_layPickedAnew 45 = .ok (.iload_n 3, 1) := by decide +kernel
theorem dX0_layPickedAnew_46 : decode cX0_layPickedAnew 46 = .ok (.aload_n 0, 1) := by decide +kernel
theorem dX0_layPickedAnew_47 : decode cX0_layPickedAnew 47 = .ok (.getfield 28, 3) := by decide +kernel
theorem dX0_layPickedAnew_50 : decode cX0_layPickedAnew 50 = .ok (.if_icmp .ge 34, 3) := by decide +kernel
theorem dX0_layPickedAnew_53 : decode cX0_layPickedAnew 53 = .ok (.aload_n 0, 1) := by decide +kernel
theorem dX0_layPickedAnew_54 : decode cX0_layPickedAnew 54 = .ok (.getfield 55, 3) := by decide +kernel
theorem dX0_layPickedAnew_57 : decode cX0_layPickedAnew 57 = .ok (.aload_n 0, 1) := by decide +kernel
theorem dX0_layPickedAnew_58 : decode cX0_layPickedAnew 58 = .ok (.getfield 9, 3) := by decide +kernel
theorem dX0_layPickedAnew_61 : decode cX0_layPickedAnew 61 = .ok (.iload_n 3, 1) := by decide +kernel
theorem dX0_layPickedAnew_62 : decode cX0_layPickedAnew 62 = .ok (.iaload, 1) := by decide +kernel
theorem dX0_layPickedAnew_63 : decode cX0_layPickedAnew 63 = .ok (.invokevirtual 120, 3) := by decide +kernel
theorem dX0_layPickedAnew_66 : decode cX0_layPickedAnew 66 = .ok (.aload_n 0, 1) := by decide +kernel
theorem dX0_layPickedAnew_67 : decode cX0_layPickedAnew 67 = .ok (.getfield 15, 3) := by decide +kernel
theorem dX0_layPickedAnew_70 : decode cX0_layPickedAnew 70 = .ok (.iload_n 3, 1) := by decide +kernel
theorem dX0_layPickedAnew_71 : decode cX0_layPickedAnew 71 = .ok (.iaload, 1) := by decide +kernel
theorem dX0_layPickedAnew_72 : decode cX0_layPickedAnew 72 = .ok (.if_icmp .eq 6, 3) := by decide +kernel
theorem dX0_layPickedAnew_75 : decode cX0_layPickedAnew 75 = .ok (.iinc 2 1, 3) := by decide +kernel
theorem dX0_layPickedAnew_78 : decode cX0_layPickedAnew 78 = .ok (.iinc 3 1, 3) := by decide +kernel
theorem dX0_layPickedAnew_81 : decode cX0_layPickedAnew 81 = .ok (.goto (-36), 3) := by decide +kernel
theorem dX0_layPickedAnew_84 : decode cX0_layPickedAnew 84 = .ok (.iload_n 2, 1) := by decide +kernel
theorem dX0_layPickedAnew_85 : decode cX0_layPickedAnew 85 = .ok (.ireturn, 1) := by decide +kernel
noncomputable def tX0_layPickedAnew_2 (j27 : qT (Int32 × qM)) (j2 : qT (Int32 × qM)) : qT (Int32 × qM) :=
  oLi 2 (oLa 0 (oGi 68 7 (oCGe (oLa 0 (oLi 1 (oCi GX0_layPicked 2 (oPop (oC (.int (0 : Int32)) (oSi 2 (oC (.int (0 : Int32)) (oSi 3 (j27))))))))) (oLa 0 (oGf 68 3 70 (oLi 2 (oLa 0 (oGf 68 1 58 (oLa 0 (oGf 68 2 69 (oLi 2 (oAi 69 4 (oCi GX4_take 2 (oWi 70 4 (oInc 2 (1 : Int32) (j2))))))))))))))))
noncomputable def wX0_layPickedAnew_2 (k : Int32 → Int32 → qM → Option (Int32 × qM)) : qT (Int32 × qM) := fun lo st m => match lo, st with
  | [some (.ref 68), some (.int a1), some (.int a2), _], [] => k a1 a2 m
  | _, _ => none
noncomputable def wX0_layPickedAnew_27 (k : Int32 → Int32 → qM → Option (Int32 × qM)) : qT (Int32 × qM) := fun lo st m => match lo, st with
  | [some (.ref 68), _, some (.int a2), some (.int a3)], [] => k a2 a3 m
  | _, _ => none
set_option maxRecDepth 20000 in
theorem sX0_layPickedAnew_2 {C : qCx} {w : qWp} (h : qOk C w RX0 cX0_layPickedAnew 4 14 155 155) (hm : qMt C (some .int)) (hx : qNx C) {j27 : qT (Int32 × qM)} {j2 : qT (Int32 × qM)} (k27 : qSnd C w 4 155 (qQf C w 155 155 jI) qfin 155 45 j27) (k2 : qSnd C w 4 155 (qQf C w 155 155 jI) qfin 155 2 j2) : qSnd C w 4 155 (qQf C w 155 155 jI) qfin 155 2 (tX0_layPickedAnew_2 j27 j2) :=
  cLi (pc := 2) h dX0_layPickedAnew_2 rfl (cLa (pc := 3) h dX0_layPickedAnew_3 rfl (gGi (pc := 4) h dX0_layPickedAnew_4 ff_X0_28_68 (Nat.le_of_ble_eq_true rfl) (Nat.le_of_ble_eq_true rfl) (jCGe (pc := 7) h dX0_layPickedAnew_7 rfl (cLa (pc := 35) h dX0_layPickedAnew_35 rfl (cLi (pc := 36) h dX0_layPickedAnew_36 rfl (kCi (pc := 37) h (kd_X0_117 h dX0_layPickedAnew_37) spX0_layPicked (by decide) (by decide) (by decide) (by decide) (aPop (pc := 40) h dX0_layPickedAnew_40 (cC (pc := 41) h dX0_layPickedAnew_41 rfl (cSi (pc := 42) h dX0_layPickedAnew_42 rfl (cC (pc := 43) h dX0_layPickedAnew_43 rfl (cSi (pc := 44) h dX0_layPickedAnew_44 rfl (k27))))))))) (cLa (pc := 10) h dX0_layPickedAnew_10 rfl (gGf (pc := 11) h dX0_layPickedAnew_11 ff_X0_15_68 (Nat.le_of_ble_eq_true rfl) (Nat.le_of_ble_eq_true rfl) rfl (cLi (pc := 14) h dX0_layPickedAnew_14 rfl (cLa (pc := 15) h dX0_layPickedAnew_15 rfl (gGf (pc := 16) h dX0_layPickedAnew_16 ff_X0_55_68 (Nat.le_of_ble_eq_true rfl) (Nat.le_of_ble_eq_true rfl) rfl (cLa (pc := 19) h dX0_layPickedAnew_19 rfl (gGf (pc := 20) h dX0_layPickedAnew_20 ff_X0_9_68 (Nat.le_of_ble_eq_true rfl) (Nat.le_of_ble_eq_true rfl) rfl (cLi (pc := 23) h dX0_layPickedAnew_23 rfl (rAi (pc := 24) h dX0_layPickedAnew_24 rfl (Nat.le_of_ble_eq_true rfl) (Nat.le_of_ble_eq_true rfl) (kCi (pc := 25) h (kd_X0_114 h dX0_layPickedAnew_25) spX4_take (by decide) (by decide) (by decide) (by decide) (rWi (pc := 28) h dX0_layPickedAnew_28 rfl (Nat.le_of_ble_eq_true rfl) (Nat.le_of_ble_eq_true rfl) (cInc (pc := 29) h dX0_layPickedAnew_29 rfl (jGo (pc := 32) h dX0_layPickedAnew_32 rfl (k2)))))))))))))))))
set_option maxRecDepth 20000 in
theorem lX0_layPickedAnew_2 (k27 : Int32 → Int32 → qM → Option (Int32 × qM)) (n : Nat) (a1 : Int32) (a2 : Int32) (m : qM) : tX0_layPickedAnew_2 (wX0_layPickedAnew_27 k27) (wX0_layPickedAnew_2 ((fX0_layPickedAnew_2 k27 n))) [some (.ref 68), some (.int a1), some (.int a2), none] [] m = fX0_layPickedAnew_2 k27 (n + 1) a1 a2 m := rfl
theorem bX0_layPickedAnew_2 {C : qCx} {w : qWp} (h : qOk C w RX0 cX0_layPickedAnew 4 14 155 155) (hm : qMt C (some .int)) (hx : qNx C) {k27 : Int32 → Int32 → qM → Option (Int32 × qM)} (h27 : qSnd C w 4 155 (qQf C w 155 155 jI) qfin 155 45 (wX0_layPickedAnew_27 k27)) : ∀ n : Nat, qSnd C w 4 155 (qQf C w 155 155 jI) qfin 155 2 (wX0_layPickedAnew_2 (fX0_layPickedAnew_2 k27 n))
  | 0 => qSnd_of0 (fun lo st m x hr0 => by
    unfold wX0_layPickedAnew_2 at hr0
    split at hr0
    · cases hr0
    · cases hr0)
  | n + 1 => by
    have ih := bX0_layPickedAnew_2 h hm hx h27 n
    exact qSnd_of (fun lo st m x hr0 => by
    unfold wX0_layPickedAnew_2 at hr0
    split at hr0
    · exact ⟨_, (qsub_e (qsub_e (qsub_e (qsub_n qsub_nil)))), (lX0_layPickedAnew_2 _ n _ _ _).trans hr0⟩
    · cases hr0) (sX0_layPickedAnew_2 h hm hx h27 ih)
noncomputable def tX0_layPickedAnew_44 (j27 : qT (Int32 × qM)) : qT (Int32 × qM) :=
  oInc 3 (1 : Int32) (j27)
noncomputable def wX0_layPickedAnew_44 (k : Int32 → Int32 → qM → Option (Int32 × qM)) : qT (Int32 × qM) := fun lo st m => match lo, st with
  | [some (.ref 68), _, some (.int a2), some (.int a3)], [] => k a2 a3 m
  | _, _ => none
set_option maxRecDepth 20000 in
theorem sX0_layPickedAnew_44 {C : qCx} {w : qWp} (h : qOk C w RX0 cX0_layPickedAnew 4 14 155 155) (hm : qMt C (some .int)) (hx : qNx C) {j27 : qT (Int32 × qM)} (k27 : qSnd C w 4 155 (qQf C w 155 155 jI) qfin 155 45 j27) : qSnd C w 4 155 (qQf C w 155 155 jI) qfin 155 78 (tX0_layPickedAnew_44 j27) :=
  cInc (pc := 78) h dX0_layPickedAnew_78 rfl (jGo (pc := 81) h dX0_layPickedAnew_81 rfl (k27))
set_option maxRecDepth 20000 in
theorem lX0_layPickedAnew_44 (k27 : Int32 → Int32 → qM → Option (Int32 × qM)) (a2 : Int32) (a3 : Int32) (m : qM) : tX0_layPickedAnew_44 (wX0_layPickedAnew_27 k27) [some (.ref 68), none, some (.int a2), some (.int a3)] [] m = fX0_layPickedAnew_44 k27 a2 a3 m := rfl
theorem bX0_layPickedAnew_44 {C : qCx} {w : qWp} (h : qOk C w RX0 cX0_layPickedAnew 4 14 155 155) (hm : qMt C (some .int)) (hx : qNx C) {k27 : Int32 → Int32 → qM → Option (Int32 × qM)} (h27 : qSnd C w 4 155 (qQf C w 155 155 jI) qfin 155 45 (wX0_layPickedAnew_27 k27)) : qSnd C w 4 155 (qQf C w 155 155 jI) qfin 155 78 (wX0_layPickedAnew_44 (fX0_layPickedAnew_44 k27)) :=
  qSnd_of (fun lo st m x hr0 => by
    unfold wX0_layPickedAnew_44 at hr0
    split at hr0
    · exact ⟨_, (qsub_e (qsub_n (qsub_e (qsub_e qsub_nil)))), (lX0_layPickedAnew_44 _ _ _ _).trans hr0⟩
    · cases hr0) (sX0_layPickedAnew_44 h hm hx h27)
noncomputable def tX0_layPickedAnew_27 (j44 : qT (Int32 × qM)) : qT (Int32 × qM) :=
  oLi 3 (oLa 0 (oGi 68 7 (oCGe (oLi 2 (eI)) (oLa 0 (oGf 68 1 58 (oLa 0 (oGf 68 2 69 (oLi 3 (oAi 69 4 (oCi GX4_slotOf 2 (oLa 0 (oGf 68 3 70 (oLi 3 (oAi 70 4 (oCEq (j44) (oInc 2 (1 : Int32) (j44)))))))))))))))))
set_option maxRecDepth 20000 in
theorem sX0_layPickedAnew_27 {C : qCx} {w : qWp} (h : qOk C w RX0 cX0_layPickedAnew 4 14 155 155) (hm : qMt C (some .int)) (hx : qNx C) {j44 : qT (Int32 × qM)} (k44 : qSnd C w 4 155 (qQf C w 155 155 jI) qfin 155 78 j44) : qSnd C w 4 155 (qQf C w 155 155 jI) qfin 155 45 (tX0_layPickedAnew_27 j44) :=
  cLi (pc := 45) h dX0_layPickedAnew_45 rfl (cLa (pc := 46) h dX0_layPickedAnew_46 rfl (gGi (pc := 47) h dX0_layPickedAnew_47 ff_X0_28_68 (Nat.le_of_ble_eq_true rfl) (Nat.le_of_ble_eq_true rfl) (jCGe (pc := 50) h dX0_layPickedAnew_50 rfl (cLi (pc := 84) h dX0_layPickedAnew_84 rfl (zI (pc := 85) h hm (Nat.le_refl _) dX0_layPickedAnew_85)) (cLa (pc := 53) h dX0_layPickedAnew_53 rfl (gGf (pc := 54) h dX0_layPickedAnew_54 ff_X0_55_68 (Nat.le_of_ble_eq_true rfl) (Nat.le_of_ble_eq_true rfl) rfl (cLa (pc := 57) h dX0_layPickedAnew_57 rfl (gGf (pc := 58) h dX0_layPickedAnew_58 ff_X0_9_68 (Nat.le_of_ble_eq_true rfl) (Nat.le_of_ble_eq_true rfl) rfl (cLi (pc := 61) h dX0_layPickedAnew_61 rfl (rAi (pc := 62) h dX0_layPickedAnew_62 rfl (Nat.le_of_ble_eq_true rfl) (Nat.le_of_ble_eq_true rfl) (kCi (pc := 63) h (kd_X0_120 h dX0_layPickedAnew_63) spX4_slotOf (by decide) (by decide) (by decide) (by decide) (cLa (pc := 66) h dX0_layPickedAnew_66 rfl (gGf (pc := 67) h dX0_layPickedAnew_67 ff_X0_15_68 (Nat.le_of_ble_eq_true rfl) (Nat.le_of_ble_eq_true rfl) rfl (cLi (pc := 70) h dX0_layPickedAnew_70 rfl (rAi (pc := 71) h dX0_layPickedAnew_71 rfl (Nat.le_of_ble_eq_true rfl) (Nat.le_of_ble_eq_true rfl) (jCEq (pc := 72) h dX0_layPickedAnew_72 rfl (k44) (cInc (pc := 75) h dX0_layPickedAnew_75 rfl (k44)))))))))))))))))
set_option maxRecDepth 20000 in
theorem lX0_layPickedAnew_27 (n : Nat) (a2 : Int32) (a3 : Int32) (m : qM) : tX0_layPickedAnew_27 (wX0_layPickedAnew_44 (fX0_layPickedAnew_44 (fX0_layPickedAnew_27 n))) [some (.ref 68), none, some (.int a2), some (.int a3)] [] m = fX0_layPickedAnew_27 (n + 1) a2 a3 m := rfl
theorem bX0_layPickedAnew_27 {C : qCx} {w : qWp} (h : qOk C w RX0 cX0_layPickedAnew 4 14 155 155) (hm : qMt C (some .int)) (hx : qNx C) : ∀ n : Nat, qSnd C w 4 155 (qQf C w 155 155 jI) qfin 155 45 (wX0_layPickedAnew_27 (fX0_layPickedAnew_27 n))
  | 0 => qSnd_of0 (fun lo st m x hr0 => by
    unfold wX0_layPickedAnew_27 at hr0
    split at hr0
    · cases hr0
    · cases hr0)
  | n + 1 => by
    have ih := bX0_layPickedAnew_27 h hm hx n
    exact qSnd_of (fun lo st m x hr0 => by
    unfold wX0_layPickedAnew_27 at hr0
    split at hr0
    · exact ⟨_, (qsub_e (qsub_n (qsub_e (qsub_e qsub_nil)))), (lX0_layPickedAnew_27 n _ _ _).trans hr0⟩
    · cases hr0) (sX0_layPickedAnew_27 h hm hx (bX0_layPickedAnew_44 h hm hx ih))
noncomputable def tX0_layPickedAnew_0 (j2 : qT (Int32 × qM)) : qT (Int32 × qM) :=
  oC (.int (0 : Int32)) (oSi 2 (j2))
set_option maxRecDepth 20000 in
theorem sX0_layPickedAnew_0 {C : qCx} {w : qWp} (h : qOk C w RX0 cX0_layPickedAnew 4 14 155 155) (hm : qMt C (some .int)) (hx : qNx C) {j2 : qT (Int32 × qM)} (k2 : qSnd C w 4 155 (qQf C w 155 155 jI) qfin 155 2 j2) : qSnd C w 4 155 (qQf C w 155 155 jI) qfin 155 0 (tX0_layPickedAnew_0 j2) :=
  cC (pc := 0) h dX0_layPickedAnew_0 rfl (cSi (pc := 1) h dX0_layPickedAnew_1 rfl (k2))
set_option maxRecDepth 20000 in
theorem lX0_layPickedAnew_0 (a1 : Int32) (m : qM) : tX0_layPickedAnew_0 (wX0_layPickedAnew_2 (fX0_layPickedAnew_2 (fX0_layPickedAnew_27 FU) FU)) [some (.ref 68), some (.int a1), none, none] [] m = fX0_layPickedAnew_0 a1 m := rfl
noncomputable def GX0_layPickedAnew : qG Int32 := fun av m => match av with
  | [.ref 68, .int a1] => fX0_layPickedAnew a1 m
  | _ => none
theorem spX0_layPickedAnew : qSpI yX0_layPickedAnew (.code yX0_layPickedAnew cX0_layPickedAnew 4 (some .int)) 14 qfin 155 155 1 GX0_layPickedAnew := by
  intro av m x m' hG
  unfold GX0_layPickedAnew at hG
  split at hG
  · rename_i a1
    rw [fX0_layPickedAnew_d] at hG
    exact ⟨qmeet (J := jI) (r := (x, m')) (av := [.ref 68, .int a1]) (by decide +kernel) (Nat.le_of_ble_eq_true rfl) (fun C w h hm hx hn => sX0_layPickedAnew_0 h hm hx (bX0_layPickedAnew_2 h hm hx (bX0_layPickedAnew_27 h hm hx FU) FU)) ((lX0_layPickedAnew_0 _ _).trans hG) (Nat.le_of_ble_eq_true rfl), Or.inl ⟨68, _, 0, _, _, rfl, by decide, rfl, qCk_0, rfl⟩⟩
  · cases hG
theorem dX0_openIfNotLaid_0 : decode cX0_openIfNotLaid 0 = .ok (.aload_n 0, 1) := by decide +kernel
theorem dX0_openIfNotLaid_1 : decode cX0_openIfNotLaid 1 = .ok (.getfield 55, 3) := by decide +kernel
theorem dX0_openIfNotLaid_4 : decode cX0_openIfNotLaid 4 = .ok (.iload_n 1, 1) := by decide +kernel
theorem dX0_openIfNotLaid_5 : decode cX0_openIfNotLaid 5 = .ok (.invokevirtual 85, 3) := by decide +kernel
theorem dX0_openIfNotLaid_8 : decode cX0_openIfNotLaid 8 = .ok (.ifCond .ne 12, 3) := by decide +kernel
theorem dX0_openIfNotLaid_11 : decode cX0_openIfNotLaid 11 = .ok (.aload_n 0, 1) := by decide +kernel
theorem dX0_openIfNotLaid_12 : decode cX0_openIfNotLaid 12 = .ok (.getfield 55, 3) := by decide +kernel
theorem dX0_openIfNotLaid_15 : decode cX0_openIfNotLaid 15 = .ok (.iload_n 1, 1) := by decide +kernel
theorem dX0_openIfNotLaid_16 : decode cX0_openIfNotLaid 16 = .ok (.invokevirtual 92, 3) := by decide +kernel
theorem dX0_openIfNotLaid_19 : decode cX0_openIfNotLaid 19 = .ok (.ireturn, 1) := by decide +kernel
theorem dX0_openIfNotLaid_20 : decode cX0_openIfNotLaid 20 = .ok (.aload_n 0, 1) := by decide +kernel
theorem dX0_openIfNotLaid_21 : decode cX0_openIfNotLaid 21 = .ok (.getfield 55, 3) := by decide +kernel
theorem dX0_openIfNotLaid_24 : decode cX0_openIfNotLaid 24 = .ok (.iload_n 1, 1) := by decide +kernel
theorem dX0_openIfNotLaid_25 : decode cX0_openIfNotLaid 25 = .ok (.invokevirtual 114, 3) := by decide +kernel
theorem dX0_openIfNotLaid_28 : decode cX0_openIfNotLaid 28 = .ok (.istore_n 2, 1) := by decide +kernel
theorem dX0_openIfNotLaid_29 : decode cX0_openIfNotLaid 29 = .ok (.aload_n 0, 1) := by decide +kernel
theorem dX0_openIfNotLaid_30 : decode cX0_openIfNotLaid 30 = .ok (.getfield 55, 3) := by decide +kernel
theorem dX0_openIfNotLaid_33 : decode cX0_openIfNotLaid 33 = .ok (.iload_n 1, 1) := by decide +kernel
theorem dX0_openIfNotLaid_34 : decode cX0_openIfNotLaid 34 = .ok (.invokevirtual 92, 3) := by decide +kernel
theorem dX0_openIfNotLaid_37 : decode cX0_openIfNotLaid 37 = .ok (.istore_n 3, 1) := by decide +kernel
theorem dX0_openIfNotLaid_38 : decode cX0_openIfNotLaid 38 = .ok (.aload_n 0, 1) := by decide +kernel
theorem dX0_openIfNotLaid_39 : decode cX0_openIfNotLaid 39 = .ok (.getfield 55, 3) := by decide +kernel
theorem dX0_openIfNotLaid_42 : decode cX0_openIfNotLaid 42 = .ok (.iload_n 1, 1) := by decide +kernel
theorem dX0_openIfNotLaid_43 : decode cX0_openIfNotLaid 43 = .ok (.iload_n 2, 1) := by decide +kernel
theorem dX0_openIfNotLaid_44 : decode cX0_openIfNotLaid 44 = .ok (.invokevirtual 101, 3) := by decide +kernel
theorem dX0_openIfNotLaid_47 : decode cX0_openIfNotLaid 47 = .ok (.iload_n 3, 1) := by decide +kernel
theorem dX0_openIfNotLaid_48 : decode cX0_openIfNotLaid 48 = .ok (.ireturn, 1) := by decide +kernel
noncomputable def tX0_openIfNotLaid_0 : qT (Int32 × qM) :=
  oLa 0 (oGf 68 1 58 (oLi 1 (oCi GX4_isLaid 2 (oEq (oLa 0 (oGf 68 1 58 (oLi 1 (oCi GX4_openSlots 2 (eI))))) (oLa 0 (oGf 68 1 58 (oLi 1 (oCi GX4_take 2 (oSi 2 (oLa 0 (oGf 68 1 58 (oLi 1 (oCi GX4_openSlots 2 (oSi 3 (oLa 0 (oGf 68 1 58 (oLi 1 (oLi 2 (oCv GX4_put 3 (oLi 3 (eI)))))))))))))))))))))
set_option maxRecDepth 20000 in
theorem sX0_openIfNotLaid_0 {C : qCx} {w : qWp} (h : qOk C w RX0 cX0_openIfNotLaid 4 4 155 155) (hm : qMt C (some .int)) (hx : qNx C) : qSnd C w 4 155 (qQf C w 155 155 jI) qfin 155 0 (tX0_openIfNotLaid_0) :=
  cLa (pc := 0) h dX0_openIfNotLaid_0 rfl (gGf (pc := 1) h dX0_openIfNotLaid_1 ff_X0_55_68 (Nat.le_of_ble_eq_true rfl) (Nat.le_of_ble_eq_true rfl) rfl (cLi (pc := 4) h dX0_openIfNotLaid_4 rfl (kCi (pc := 5) h (kd_X0_85 h dX0_openIfNotLaid_5) spX4_isLaid (by decide) (by decide) (by decide) (by decide) (jNe (pc := 8) h dX0_openIfNotLaid_8 rfl (cLa (pc := 20) h dX0_openIfNotLaid_20 rfl (gGf (pc := 21) h dX0_openIfNotLaid_21 ff_X0_55_68 (Nat.le_of_ble_eq_true rfl) (Nat.le_of_ble_eq_true rfl) rfl (cLi (pc := 24) h dX0_openIfNotLaid_24 rfl (kCi (pc := 25) h (kd_X0_114 h dX0_openIfNotLaid_25) spX4_take (by decide) (by decide) (by decide) (by decide) (cSi (pc := 28) h dX0_openIfNotLaid_28 rfl (cLa (pc := 29) h dX0_openIfNotLaid_29 rfl (gGf (pc := 30) h dX0_openIfNotLaid_30 ff_X0_55_68 (Nat.le_of_ble_eq_true rfl) (Nat.le_of_ble_eq_true rfl) rfl (cLi (pc := 33) h dX0_openIfNotLaid_33 rfl (kCi (pc := 34) h (kd_X0_92 h dX0_openIfNotLaid_34) spX4_openSlots (by decide) (by decide) (by decide) (by decide) (cSi (pc := 37) h dX0_openIfNotLaid_37 rfl (cLa (pc := 38) h dX0_openIfNotLaid_38 rfl (gGf (pc := 39) h dX0_openIfNotLaid_39 ff_X0_55_68 (Nat.le_of_ble_eq_true rfl) (Nat.le_of_ble_eq_true rfl) rfl (cLi (pc := 42) h dX0_openIfNotLaid_42 rfl (cLi (pc := 43) h dX0_openIfNotLaid_43 rfl (kCv (pc := 44) h (kd_X0_101 h dX0_openIfNotLaid_44) spX4_put (by decide) (by decide) (by decide) (by decide) (cLi (pc := 47) h dX0_openIfNotLaid_47 rfl (zI (pc := 48) h hm (Nat.le_refl _) dX0_openIfNotLaid_48))))))))))))))))) (cLa (pc := 11) h dX0_openIfNotLaid_11 rfl (gGf (pc := 12) h dX0_openIfNotLaid_12 ff_X0_55_68 (Nat.le_of_ble_eq_true rfl) (Nat.le_of_ble_eq_true rfl) rfl (cLi (pc := 15) h dX0_openIfNotLaid_15 rfl (kCi (pc := 16) h (kd_X0_92 h dX0_openIfNotLaid_16) spX4_openSlots (by decide) (by decide) (by decide) (by decide) (zI (pc := 19) h hm (Nat.le_refl _) dX0_openIfNotLaid_19)))))))))
set_option maxRecDepth 20000 in
theorem lX0_openIfNotLaid_0 (a1 : Int32) (m : qM) : tX0_openIfNotLaid_0 [some (.ref 68), some (.int a1), none, none] [] m = fX0_openIfNotLaid_0 a1 m := rfl
noncomputable def GX0_openIfNotLaid : qG Int32 := fun av m => match av with
  | [.ref 68, .int a1] => fX0_openIfNotLaid a1 m
  | _ => none
theorem spX0_openIfNotLaid : qSpI yX0_openIfNotLaid (.code yX0_openIfNotLaid cX0_openIfNotLaid 4 (some .int)) 4 qfin 155 155 1 GX0_openIfNotLaid := by
  intro av m x m' hG
  unfold GX0_openIfNotLaid at hG
  split at hG
  · rename_i a1
    rw [fX0_openIfNotLaid_d] at hG
    exact ⟨qmeet (J := jI) (r := (x, m')) (av := [.ref 68, .int a1]) (by decide +kernel) (Nat.le_of_ble_eq_true rfl) (fun C w h hm hx hn => sX0_openIfNotLaid_0 h hm hx) ((lX0_openIfNotLaid_0 _ _).trans hG) (Nat.le_of_ble_eq_true rfl), Or.inl ⟨68, _, 0, _, _, rfl, by decide, rfl, qCk_0, rfl⟩⟩
  · cases hG
theorem dX0_keepChange_0 : decode cX0_keepChange 0 = .ok (.aload_n 0, 1) := by decide +kernel
theorem dX0_keepChange_1 : decode cX0_keepChange 1 = .ok (.iload_n 1, 1) := by decide +kernel
theorem dX0_keepChange_2 : decode cX0_keepChange 2 = .ok (.putfield 39, 3) := by decide +kernel
theorem dX0_keepChange_5 : decode cX0_keepChange 5 = .ok (.aload_n 0, 1) := by decide +kernel
theorem dX0_keepChange_6 : decode cX0_keepChange 6 = .ok (.iload_n 2, 1) := by decide +kernel
theorem dX0_keepChange_7 : decode cX0_keepChange 7 = .ok (.putfield 42, 3) := by decide +kernel
theorem dX0_keepChange_10 : decode cX0_keepChange 10 = .ok (.aload_n 0, 1) := by decide +kernel
theorem dX0_keepChange_11 : decode cX0_keepChange 11 = .ok (.iload_n 3, 1) := by decide +kernel
theorem dX0_keepChange_12 : decode cX0_keepChange 12 = .ok (.putfield 45, 3) := by decide +kernel
theorem dX0_keepChange_15 : decode cX0_keepChange 15 = .ok (.aload_n 0, 1) := by decide +kernel
theorem dX0_keepChange_16 : decode cX0_keepChange 16 = .ok (.lload 4, 2) := by decide +kernel
theorem dX0_keepChange_18 : decode cX0_keepChange 18 = .ok (.putfield 48, 3) := by decide +kernel
theorem dX0_keepChange_21 : decode cX0_keepChange 21 = .ok (.return_, 1) := by decide +kernel
noncomputable def tX0_keepChange_0 : qT (Unit × qM) :=
  oLa 0 (oLi 1 (oPi 68 10 (oLa 0 (oLi 2 (oPi 68 11 (oLa 0 (oLi 3 (oPi 68 12 (oLa 0 (oLl 4 (oPl 68 13 (eV))))))))))))
set_option maxRecDepth 20000 in
theorem sX0_keepChange_0 {C : qCx} {w : qWp} (h : qOk C w RX0 cX0_keepChange 6 0 155 155) (hm : qMt C none) (hx : qNx C) : qSnd C w 6 155 (qQf C w 155 155 jV) qfin 155 0 (tX0_keepChange_0) :=
  cLa (pc := 0) h dX0_keepChange_0 rfl (cLi (pc := 1) h dX0_keepChange_1 rfl (gPi (pc := 2) h dX0_keepChange_2 ff_X0_39_68 (Or.inl rfl) (Nat.le_of_ble_eq_true rfl) (Nat.le_of_ble_eq_true rfl) (cLa (pc := 5) h dX0_keepChange_5 rfl (cLi (pc := 6) h dX0_keepChange_6 rfl (gPi (pc := 7) h dX0_keepChange_7 ff_X0_42_68 (Or.inl rfl) (Nat.le_of_ble_eq_true rfl) (Nat.le_of_ble_eq_true rfl) (cLa (pc := 10) h dX0_keepChange_10 rfl (cLi (pc := 11) h dX0_keepChange_11 rfl (gPi (pc := 12) h dX0_keepChange_12 ff_X0_45_68 (Or.inl rfl) (Nat.le_of_ble_eq_true rfl) (Nat.le_of_ble_eq_true rfl) (cLa (pc := 15) h dX0_keepChange_15 rfl (cLL (pc := 16) h dX0_keepChange_16 (gPl (pc := 18) h dX0_keepChange_18 ff_X0_48_68 (Or.inl rfl) (Nat.le_of_ble_eq_true rfl) (Nat.le_of_ble_eq_true rfl) (zV (pc := 21) h hm (Nat.le_refl _) dX0_keepChange_21))))))))))))
set_option maxRecDepth 20000 in
theorem lX0_keepChange_0 (a1 : Int32) (a2 : Int32) (a3 : Int32) (a4 : Int64) (m : qM) : tX0_keepChange_0 [some (.ref 68), some (.int a1), some (.int a2), some (.int a3), some (.long a4), none] [] m = fX0_keepChange_0 a1 a2 a3 a4 m := rfl
noncomputable def GX0_keepChange : qG Unit := fun av m => match av with
  | [.ref 68, .int a1, .int a2, .int a3, .long a4] => fX0_keepChange a1 a2 a3 a4 m
  | _ => none
theorem spX0_keepChange : qSpV yX0_keepChange (.code yX0_keepChange cX0_keepChange 6 none) 0 qfin 155 155 1 GX0_keepChange := by
  intro av m m' hG
  unfold GX0_keepChange at hG
  split at hG
  · rename_i a1 a2 a3 a4
    rw [fX0_keepChange_d] at hG
    exact ⟨qmeet (J := jV) (r := ((), m')) (av := [.ref 68, .int a1, .int a2, .int a3, .long a4]) (by decide +kernel) (Nat.le_of_ble_eq_true rfl) (fun C w h hm hx hn => sX0_keepChange_0 h hm hx) ((lX0_keepChange_0 _ _ _ _ _).trans hG) (Nat.le_of_ble_eq_true rfl), Or.inl ⟨68, _, 0, _, _, rfl, by decide, rfl, qCk_0, rfl⟩⟩
  · cases hG
theorem im_X0_openIfNotLaid : Jvm.Cond.instanceMethod yX0_openIfNotLaid ∈ qTw := qm4 (List.mem_of_getElem? (i := 236) (by decide +kernel)) (by decide +kernel)
theorem se_X0_openIfNotLaid : Jvm.Cond.selects yX0_openIfNotLaid.cls yX0_openIfNotLaid yX0_openIfNotLaid ∈ qTw := List.mem_filter.mpr ⟨List.mem_append_left _ (List.mem_of_getElem? (i := 15) (by decide +kernel)), rfl⟩
theorem co_X0_openIfNotLaid : Jvm.Cond.code yX0_openIfNotLaid cX0_openIfNotLaid 4 (some .int) ∈ qTw := qm4 (List.mem_of_getElem? (i := 237) (by decide +kernel)) (by decide +kernel)
theorem yk_X0_openIfNotLaid : qYk yX0_openIfNotLaid 1 := ⟨⟨by decide +kernel, by decide +kernel⟩, by decide +kernel⟩
theorem ml_X0_159 : Jvm.Cond.methodLink RX0 159 yX0_openIfNotLaid ∈ qTw := qm4 (List.mem_of_getElem? (i := 234) (by decide +kernel)) (by decide +kernel)
theorem kd_X0_159 {C : qCx} {w : qWp} {cc : ByteArray} {nL dp n0 n1 pc : Nat} (h : qOk C w RX0 cc nL dp n0 n1) (d : decode cc pc = .ok (.invokevirtual 159, 3)) : qCallOk C w nL dp n0 n1 pc 2 1 yX0_openIfNotLaid (.code yX0_openIfNotLaid cX0_openIfNotLaid 4 (some .int)) := kindV h d ml_X0_159 im_X0_openIfNotLaid se_X0_openIfNotLaid in_ParentEve_Chooser co_X0_openIfNotLaid yk_X0_openIfNotLaid (by decide)
theorem im_X0_keepChange : Jvm.Cond.instanceMethod yX0_keepChange ∈ qTw := qm5 (List.mem_of_getElem? (i := 0) (by decide +kernel)) (by decide +kernel)
theorem se_X0_keepChange : Jvm.Cond.selects yX0_keepChange.cls yX0_keepChange yX0_keepChange ∈ qTw := List.mem_filter.mpr ⟨List.mem_append_left _ (List.mem_of_getElem? (i := 16) (by decide +kernel)), rfl⟩
theorem co_X0_keepChange : Jvm.Cond.code yX0_keepChange cX0_keepChange 6 none ∈ qTw := qm5 (List.mem_of_getElem? (i := 1) (by decide +kernel)) (by decide +kernel)
theorem yk_X0_keepChange : qYk yX0_keepChange 4 := ⟨⟨by decide +kernel, by decide +kernel⟩, by decide +kernel⟩
theorem ml_X0_162 : Jvm.Cond.methodLink RX0 162 yX0_keepChange ∈ qTw := qm4 (List.mem_of_getElem? (i := 238) (by decide +kernel)) (by decide +kernel)
theorem kd_X0_162 {C : qCx} {w : qWp} {cc : ByteArray} {nL dp n0 n1 pc : Nat} (h : qOk C w RX0 cc nL dp n0 n1) (d : decode cc pc = .ok (.invokevirtual 162, 3)) : qCallOk C w nL dp n0 n1 pc 5 1 yX0_keepChange (.code yX0_keepChange cX0_keepChange 6 none) := kindV h d ml_X0_162 im_X0_keepChange se_X0_keepChange in_ParentEve_Chooser co_X0_keepChange yk_X0_keepChange (by decide)
theorem dX0_seekPuts_0 : decode cX0_seekPuts 0 = .ok (.iconst 0, 1) := by decide +kernel
theorem dX0_seekPuts_1 : decode cX0_seekPuts 1 = .ok (.istore_n 2, 1) := by decide +kernel
theorem dX0_seekPuts_2 : decode cX0_seekPuts 2 = .ok (.iload_n 2, 1) := by decide +kernel
theorem dX0_seekPuts_3 : decode cX0_seekPuts 3 = .ok (.aload_n 0, 1) := by decide +kernel
theorem dX0_seekPuts_4 : decode cX0_seekPuts 4 = .ok (.getfield 55, 3) := by decide +kernel
theorem dX0_seekPuts_7 : decode cX0_seekPuts 7 = .ok (.invokevirtual 69, 3) := by decide +kernel
theorem dX0_seekPuts_10 : decode cX0_seekPuts 10 = .ok (.if_icmp .ge 88, 3) := by decide +kernel
theorem dX0_seekPuts_13 : decode cX0_seekPuts 13 = .ok (.aload_n 0, 1) := by decide +kernel
theorem dX0_seekPuts_14 : decode cX0_seekPuts 14 = .ok (.getfield 55, 3) := by decide +kernel
theorem dX0_seekPuts_17 : decode cX0_seekPuts 17 = .ok (.iload_n 2, 1) := by decide +kernel
theorem dX0_seekPuts_18 : decode cX0_seekPuts 18 = .ok (.invokevirtual 85, 3) := by decide +kernel
theorem dX0_seekPuts_21 : decode cX0_seekPuts 21 = .ok (.iload_n 1, 1) := by decide +kernel
theorem dX0_seekPuts_22 : decode cX0_seekPuts 22 = .ok (.if_icmp .ne 70, 3) := by decide +kernel
theorem dX0_seekPuts_25 : decode cX0_seekPuts 25 = .ok (.aload_n 0, 1) := by decide +kernel
theorem dX0_seekPuts_26 : decode cX0_seekPuts 26 = .ok (.iload_n 2, 1) := by decide +kernel
theorem dX0_seekPuts_27 : decode cX0_seekPuts 27 = .ok (.invokevirtual 159, 3) := by decide +kernel
theorem dX0_seekPuts_30 : decode cX0_seekPuts 30 = .ok (.istore_n 3, 1) := by decide +kernel
theorem dX0_seekPuts_31 : decode cX0_seekPuts 31 = .ok (.iconst 0, 1) := by decide +kernel
theorem dX0_seekPuts_32 : decode cX0_seekPuts 32 = .ok (.istore 4, 2) := by decide +kernel
theorem dX0_seekPuts_34 : decode cX0_seekPuts 34 = .ok (.iload 4, 2) := by decide +kernel
theorem dX0_seekPuts_36 : decode cX0_seekPuts 36 = .ok (.bipush 20, 2) := by decide +kernel
theorem dX0_seekPuts_38 : decode cX0_seekPuts 38 = .ok (.if_icmp .ge 54, 3) := by decide +kernel
theorem dX0_seekPuts_41 : decode cX0_seekPuts 41 = .ok (.iload_n 3, 1) := by decide +kernel
theorem dX0_seekPuts_42 : decode cX0_seekPuts 42 = .ok (.iload 4, 2) := by decide +kernel
theorem dX0_seekPuts_44 : decode cX0_seekPuts 44 = .ok (.invokestatic 126, 3) := by decide +kernel
theorem dX0_seekPuts_47 : decode cX0_seekPuts 47 = .ok (.ifCond .eq 39, 3) := by decide +kernel
theorem dX0_seekPuts_50 : decode cX0_seekPuts 50 = .ok (.aload_n 0, 1) := by decide +kernel
theorem dX0_seekPuts_51 : decode cX0_seekPuts 51 = .ok (.getfield 55, 3) := by decide +kernel
theorem dX0_seekPuts_54 : decode cX0_seekPuts 54 = .ok (.iload_n 2, 1) := by decide +kernel
theorem dX0_seekPuts_55 : decode cX0_seekPuts 55 = .ok (.iload 4, 2) := by decide +kernel
theorem dX0_seekPuts_57 : decode cX0_seekPuts 57 = .ok (.invokevirtual 130, 3) := by decide +kernel
theorem dX0_seekPuts_60 : decode cX0_seekPuts 60 = .ok (.aload_n 0, 1) := by decide +kernel
theorem dX0_seekPuts_61 : decode cX0_seekPuts 61 = .ok (.getfield 48, 3) := by decide +kernel
theorem dX0_seekPuts_64 : decode cX0_seekPuts 64 = .ok (.lcmp, 1) := by decide +kernel
theorem dX0_seekPuts_65 : decode cX0_seekPuts 65 = .ok (.ifCond .le 21, 3) := by decide +kernel
theorem dX0_seekPuts_68 : decode cX0_seekPuts 68 = .ok (.aload_n 0, 1) := by decide +kernel
theorem dX0_seekPuts_69 : decode cX0_seekPuts 69 = .ok (.iload_n 2, 1) := by decide +kernel
theorem dX0_seekPuts_70 : decode cX0_seekPuts 70 = .ok (.iconst (-1), 1) := by decide +kernel
theorem dX0_seekPuts_71 : decode cX0_seekPuts 71 = .ok (.iload 4, 2) := by decide +kernel
theorem dX0_seekPuts_73 : decode cX0_seekPuts 73 = .ok (.aload_n 0, 1) := by decide +kernel
theorem dX0_seekPuts_74 : decode cX0_seekPuts 74 = .ok (.getfield 55, 3) := by decide +kernel
theorem dX0_seekPuts_77 : decode cX0_seekPuts 77 = .ok (.iload_n 2, 1) := by decide +kernel
theorem dX0_seekPuts_78 : decode cX0_seekPuts 78 = .ok (.iload 4, 2) := by decide +kernel
theorem dX0_seekPuts_80 : decode cX0_seekPuts 80 = .ok (.invokevirtual 130, 3) := by decide +kernel
theorem dX0_seekPuts_83 : decode cX0_seekPuts 83 = .ok (.invokevirtual 162, 3) := by decide +kernel
theorem dX0_seekPuts_86 : decode cX0_seekPuts 86 = .ok (.iinc 4 1, 3) := by decide +kernel
theorem dX0_seekPuts_89 : decode cX0_seekPuts 89 = .ok (.goto (-55), 3) := by decide +kernel
theorem dX0_seekPuts_92 : decode cX0_seekPuts 92 = .ok (.iinc 2 1, 3) := by decide +kernel
theorem dX0_seekPuts_95 : decode cX0_seekPuts 95 = .ok (.goto (-93), 3) := by decide +kernel
theorem dX0_seekPuts_98 : decode cX0_seekPuts 98 = .ok (.return_, 1) := by decide +kernel
noncomputable def tX0_seekPuts_47 (j2 : qT (Unit × qM)) : qT (Unit × qM) :=
  oInc 2 (1 : Int32) (j2)
noncomputable def wX0_seekPuts_47 (k : Int32 → Int32 → qM → Option (Unit × qM)) : qT (Unit × qM) := fun lo st m => match lo, st with
  | [some (.ref 68), some (.int a1), some (.int a2), _, _], [] => k a1 a2 m
  | _, _ => none
noncomputable def wX0_seekPuts_2 (k : Int32 → Int32 → qM → Option (Unit × qM)) : qT (Unit × qM) := fun lo st m => match lo, st with
  | [some (.ref 68), some (.int a1), some (.int a2), _, _], [] => k a1 a2 m
  | _, _ => none
set_option maxRecDepth 20000 in
theorem sX0_seekPuts_47 {C : qCx} {w : qWp} (h : qOk C w RX0 cX0_seekPuts 5 5 155 155) (hm : qMt C none) (hx : qNx C) {j2 : qT (Unit × qM)} (k2 : qSnd C w 5 155 (qQf C w 155 155 jV) qfin 155 2 j2) : qSnd C w 5 155 (qQf C w 155 155 jV) qfin 155 92 (tX0_seekPuts_47 j2) :=
  cInc (pc := 92) h dX0_seekPuts_92 rfl (jGo (pc := 95) h dX0_seekPuts_95 rfl (k2))
set_option maxRecDepth 20000 in
theorem lX0_seekPuts_47 (k2 : Int32 → Int32 → qM → Option (Unit × qM)) (a1 : Int32) (a2 : Int32) (m : qM) : tX0_seekPuts_47 (wX0_seekPuts_2 k2) [some (.ref 68), some (.int a1), some (.int a2), none, none] [] m = fX0_seekPuts_47 k2 a1 a2 m := rfl
theorem bX0_seekPuts_47 {C : qCx} {w : qWp} (h : qOk C w RX0 cX0_seekPuts 5 5 155 155) (hm : qMt C none) (hx : qNx C) {k2 : Int32 → Int32 → qM → Option (Unit × qM)} (h2 : qSnd C w 5 155 (qQf C w 155 155 jV) qfin 155 2 (wX0_seekPuts_2 k2)) : qSnd C w 5 155 (qQf C w 155 155 jV) qfin 155 92 (wX0_seekPuts_47 (fX0_seekPuts_47 k2)) :=
  qSnd_of (fun lo st m x hr0 => by
    unfold wX0_seekPuts_47 at hr0
    split at hr0
    · exact ⟨_, (qsub_e (qsub_e (qsub_e (qsub_n (qsub_n qsub_nil))))), (lX0_seekPuts_47 _ _ _ _).trans hr0⟩
    · cases hr0) (sX0_seekPuts_47 h hm hx h2)
noncomputable def tX0_seekPuts_45 (j19 : qT (Unit × qM)) : qT (Unit × qM) :=
  oInc 4 (1 : Int32) (j19)
noncomputable def wX0_seekPuts_45 (k : Int32 → Int32 → Int32 → Int32 → qM → Option (Unit × qM)) : qT (Unit × qM) := fun lo st m => match lo, st with
  | [some (.ref 68), some (.int a1), some (.int a2), some (.int a3), some (.int a4)], [] => k a1 a2 a3 a4 m
  | _, _ => none
noncomputable def wX0_seekPuts_19 (k : Int32 → Int32 → Int32 → Int32 → qM → Option (Unit × qM)) : qT (Unit × qM) := fun lo st m => match lo, st with
  | [some (.ref 68), some (.int a1), some (.int a2), some (.int a3), some (.int a4)], [] => k a1 a2 a3 a4 m
  | _, _ => none
set_option maxRecDepth 20000 in
theorem sX0_seekPuts_45 {C : qCx} {w : qWp} (h : qOk C w RX0 cX0_seekPuts 5 5 155 155) (hm : qMt C none) (hx : qNx C) {j19 : qT (Unit × qM)} (k19 : qSnd C w 5 155 (qQf C w 155 155 jV) qfin 155 34 j19) : qSnd C w 5 155 (qQf C w 155 155 jV) qfin 155 86 (tX0_seekPuts_45 j19) :=
  cInc (pc := 86) h dX0_seekPuts_86 rfl (jGo (pc := 89) h dX0_seekPuts_89 rfl (k19))
set_option maxRecDepth 20000 in
theorem lX0_seekPuts_45 (k19 : Int32 → Int32 → Int32 → Int32 → qM → Option (Unit × qM)) (a1 : Int32) (a2 : Int32) (a3 : Int32) (a4 : Int32) (m : qM) : tX0_seekPuts_45 (wX0_seekPuts_19 k19) [some (.ref 68), some (.int a1), some (.int a2), some (.int a3), some (.int a4)] [] m = fX0_seekPuts_45 k19 a1 a2 a3 a4 m := rfl
theorem bX0_seekPuts_45 {C : qCx} {w : qWp} (h : qOk C w RX0 cX0_seekPuts 5 5 155 155) (hm : qMt C none) (hx : qNx C) {k19 : Int32 → Int32 → Int32 → Int32 → qM → Option (Unit × qM)} (h19 : qSnd C w 5 155 (qQf C w 155 155 jV) qfin 155 34 (wX0_seekPuts_19 k19)) : qSnd C w 5 155 (qQf C w 155 155 jV) qfin 155 86 (wX0_seekPuts_45 (fX0_seekPuts_45 k19)) :=
  qSnd_of (fun lo st m x hr0 => by
    unfold wX0_seekPuts_45 at hr0
    split at hr0
    · exact ⟨_, (qsub_e (qsub_e (qsub_e (qsub_e (qsub_e qsub_nil))))), (lX0_seekPuts_45 _ _ _ _ _ _).trans hr0⟩
    · cases hr0) (sX0_seekPuts_45 h hm hx h19)
noncomputable def tX0_seekPuts_19 (j47 : qT (Unit × qM)) (j45 : qT (Unit × qM)) : qT (Unit × qM) :=
  oLi 4 (oC (.int (20 : Int32)) (oCGe (j47) (oLi 3 (oLi 4 (oCi GX11_has 2 (oEq (j45) (oLa 0 (oGf 68 1 58 (oLi 2 (oLi 4 (oCl GX4_gain 3 (oLa 0 (oGl 68 13 (oLcmp (oLe (j45) (oLa 0 (oLi 2 (oC (.int (-1 : Int32)) (oLi 4 (oLa 0 (oGf 68 1 58 (oLi 2 (oLi 4 (oCl GX4_gain 3 (oCv GX0_keepChange 5 (j45))))))))))))))))))))))))))
set_option maxRecDepth 20000 in
theorem sX0_seekPuts_19 {C : qCx} {w : qWp} (h : qOk C w RX0 cX0_seekPuts 5 5 155 155) (hm : qMt C none) (hx : qNx C) {j47 : qT (Unit × qM)} {j45 : qT (Unit × qM)} (k47 : qSnd C w 5 155 (qQf C w 155 155 jV) qfin 155 92 j47) (k45 : qSnd C w 5 155 (qQf C w 155 155 jV) qfin 155 86 j45) : qSnd C w 5 155 (qQf C w 155 155 jV) qfin 155 34 (tX0_seekPuts_19 j47 j45) :=
  cLI (pc := 34) h dX0_seekPuts_34 (cB (pc := 36) h dX0_seekPuts_36 rfl (jCGe (pc := 38) h dX0_seekPuts_38 rfl (k47) (cLi (pc := 41) h dX0_seekPuts_41 rfl (cLI (pc := 42) h dX0_seekPuts_42 (kCi (pc := 44) h (kd_X0_126 h dX0_seekPuts_44) spX11_has (by decide) (by decide) (by decide) (by decide) (jEq (pc := 47) h dX0_seekPuts_47 rfl (k45) (cLa (pc := 50) h dX0_seekPuts_50 rfl (gGf (pc := 51) h dX0_seekPuts_51 ff_X0_55_68 (Nat.le_of_ble_eq_true rfl) (Nat.le_of_ble_eq_true rfl) rfl (cLi (pc := 54) h dX0_seekPuts_54 rfl (cLI (pc := 55) h dX0_seekPuts_55 (kCl (pc := 57) h (kd_X0_130 h dX0_seekPuts_57) spX4_gain (by decide) (by decide) (by decide) (by decide) (cLa (pc := 60) h dX0_seekPuts_60 rfl (gGl (pc := 61) h dX0_seekPuts_61 ff_X0_48_68 (Nat.le_of_ble_eq_true rfl) (Nat.le_of_ble_eq_true rfl) (aLcmp (pc := 64) h dX0_seekPuts_64 (jLe (pc := 65) h dX0_seekPuts_65 rfl (k45) (cLa (pc := 68) h dX0_seekPuts_68 rfl (cLi (pc := 69) h dX0_seekPuts_69 rfl (cC (pc := 70) h dX0_seekPuts_70 rfl (cLI (pc := 71) h dX0_seekPuts_71 (cLa (pc := 73) h dX0_seekPuts_73 rfl (gGf (pc := 74) h dX0_seekPuts_74 ff_X0_55_68 (Nat.le_of_ble_eq_true rfl) (Nat.le_of_ble_eq_true rfl) rfl (cLi (pc := 77) h dX0_seekPuts_77 rfl (cLI (pc := 78) h dX0_seekPuts_78 (kCl (pc := 80) h (kd_X0_130 h dX0_seekPuts_80) spX4_gain (by decide) (by decide) (by decide) (by decide) (kCv (pc := 83) h (kd_X0_162 h dX0_seekPuts_83) spX0_keepChange (by decide) (by decide) (by decide) (by decide) (k45))))))))))))))))))))))))))
set_option maxRecDepth 20000 in
theorem lX0_seekPuts_19 (k47 : Int32 → Int32 → qM → Option (Unit × qM)) (n : Nat) (a1 : Int32) (a2 : Int32) (a3 : Int32) (a4 : Int32) (m : qM) : tX0_seekPuts_19 (wX0_seekPuts_47 k47) (wX0_seekPuts_45 (fX0_seekPuts_45 (fX0_seekPuts_19 k47 n))) [some (.ref 68), some (.int a1), some (.int a2), some (.int a3), some (.int a4)] [] m = fX0_seekPuts_19 k47 (n + 1) a1 a2 a3 a4 m := rfl
theorem bX0_seekPuts_19 {C : qCx} {w : qWp} (h : qOk C w RX0 cX0_seekPuts 5 5 155 155) (hm : qMt C none) (hx : qNx C) {k47 : Int32 → Int32 → qM → Option (Unit × qM)} (h47 : qSnd C w 5 155 (qQf C w 155 155 jV) qfin 155 92 (wX0_seekPuts_47 k47)) : ∀ n : Nat, qSnd C w 5 155 (qQf C w 155 155 jV) qfin 155 34 (wX0_seekPuts_19 (fX0_seekPuts_19 k47 n))
  | 0 => qSnd_of0 (fun lo st m x hr0 => by
    unfold wX0_seekPuts_19 at hr0
    split at hr0
    · cases hr0
    · cases hr0)
  | n + 1 => by
    have ih := bX0_seekPuts_19 h hm hx h47 n
    exact qSnd_of (fun lo st m x hr0 => by
    unfold wX0_seekPuts_19 at hr0
    split at hr0
    · exact ⟨_, (qsub_e (qsub_e (qsub_e (qsub_e (qsub_e qsub_nil))))), (lX0_seekPuts_19 _ n _ _ _ _ _).trans hr0⟩
    · cases hr0) (sX0_seekPuts_19 h hm hx h47 (bX0_seekPuts_45 h hm hx ih))
noncomputable def tX0_seekPuts_2 (j47 : qT (Unit × qM)) (j19 : qT (Unit × qM)) : qT (Unit × qM) :=
  oLi 2 (oLa 0 (oGf 68 1 58 (oCi GX4_asks 1 (oCGe (eV) (oLa 0 (oGf 68 1 58 (oLi 2 (oCi GX4_isLaid 2 (oLi 1 (oCEq (oLa 0 (oLi 2 (oCi GX0_openIfNotLaid 2 (oSi 3 (oC (.int (0 : Int32)) (oSi 4 (j19))))))) (j47)))))))))))
set_option maxRecDepth 20000 in
theorem sX0_seekPuts_2 {C : qCx} {w : qWp} (h : qOk C w RX0 cX0_seekPuts 5 5 155 155) (hm : qMt C none) (hx : qNx C) {j47 : qT (Unit × qM)} {j19 : qT (Unit × qM)} (k47 : qSnd C w 5 155 (qQf C w 155 155 jV) qfin 155 92 j47) (k19 : qSnd C w 5 155 (qQf C w 155 155 jV) qfin 155 34 j19) : qSnd C w 5 155 (qQf C w 155 155 jV) qfin 155 2 (tX0_seekPuts_2 j47 j19) :=
  cLi (pc := 2) h dX0_seekPuts_2 rfl (cLa (pc := 3) h dX0_seekPuts_3 rfl (gGf (pc := 4) h dX0_seekPuts_4 ff_X0_55_68 (Nat.le_of_ble_eq_true rfl) (Nat.le_of_ble_eq_true rfl) rfl (kCi (pc := 7) h (kd_X0_69 h dX0_seekPuts_7) spX4_asks (by decide) (by decide) (by decide) (by decide) (jCGe (pc := 10) h dX0_seekPuts_10 rfl (zV (pc := 98) h hm (Nat.le_refl _) dX0_seekPuts_98) (cLa (pc := 13) h dX0_seekPuts_13 rfl (gGf (pc := 14) h dX0_seekPuts_14 ff_X0_55_68 (Nat.le_of_ble_eq_true rfl) (Nat.le_of_ble_eq_true rfl) rfl (cLi (pc := 17) h dX0_seekPuts_17 rfl (kCi (pc := 18) h (kd_X0_85 h dX0_seekPuts_18) spX4_isLaid (by decide) (by decide) (by decide) (by decide) (cLi (pc := 21) h dX0_seekPuts_21 rfl (jCNe (pc := 22) h dX0_seekPuts_22 rfl (k47) (cLa (pc := 25) h dX0_seekPuts_25 rfl (cLi (pc := 26) h dX0_seekPuts_26 rfl (kCi (pc := 27) h (kd_X0_159 h dX0_seekPuts_27) spX0_openIfNotLaid (by decide) (by decide) (by decide) (by decide) (cSi (pc := 30) h dX0_seekPuts_30 rfl (cC (pc := 31) h dX0_seekPuts_31 rfl (cSI (pc := 32) h dX0_seekPuts_32 (k19)))))))))))))))))
set_option maxRecDepth 20000 in
theorem lX0_seekPuts_2 (n : Nat) (a1 : Int32) (a2 : Int32) (m : qM) : tX0_seekPuts_2 (wX0_seekPuts_47 (fX0_seekPuts_47 (fX0_seekPuts_2 n))) (wX0_seekPuts_19 (fX0_seekPuts_19 (fX0_seekPuts_47 (fX0_seekPuts_2 n)) FU)) [some (.ref 68), some (.int a1), some (.int a2), none, none] [] m = fX0_seekPuts_2 (n + 1) a1 a2 m := rfl
theorem bX0_seekPuts_2 {C : qCx} {w : qWp} (h : qOk C w RX0 cX0_seekPuts 5 5 155 155) (hm : qMt C none) (hx : qNx C) : ∀ n : Nat, qSnd C w 5 155 (qQf C w 155 155 jV) qfin 155 2 (wX0_seekPuts_2 (fX0_seekPuts_2 n))
  | 0 => qSnd_of0 (fun lo st m x hr0 => by
    unfold wX0_seekPuts_2 at hr0
    split at hr0
    · cases hr0
    · cases hr0)
  | n + 1 => by
    have ih := bX0_seekPuts_2 h hm hx n
    exact qSnd_of (fun lo st m x hr0 => by
    unfold wX0_seekPuts_2 at hr0
    split at hr0
    · exact ⟨_, (qsub_e (qsub_e (qsub_e (qsub_n (qsub_n qsub_nil))))), (lX0_seekPuts_2 n _ _ _).trans hr0⟩
    · cases hr0) (sX0_seekPuts_2 h hm hx (bX0_seekPuts_47 h hm hx ih) (bX0_seekPuts_19 h hm hx (bX0_seekPuts_47 h hm hx ih) FU))
noncomputable def tX0_seekPuts_0 (j2 : qT (Unit × qM)) : qT (Unit × qM) :=
  oC (.int (0 : Int32)) (oSi 2 (j2))
set_option maxRecDepth 20000 in
theorem sX0_seekPuts_0 {C : qCx} {w : qWp} (h : qOk C w RX0 cX0_seekPuts 5 5 155 155) (hm : qMt C none) (hx : qNx C) {j2 : qT (Unit × qM)} (k2 : qSnd C w 5 155 (qQf C w 155 155 jV) qfin 155 2 j2) : qSnd C w 5 155 (qQf C w 155 155 jV) qfin 155 0 (tX0_seekPuts_0 j2) :=
  cC (pc := 0) h dX0_seekPuts_0 rfl (cSi (pc := 1) h dX0_seekPuts_1 rfl (k2))
set_option maxRecDepth 20000 in
theorem lX0_seekPuts_0 (a1 : Int32) (m : qM) : tX0_seekPuts_0 (wX0_seekPuts_2 (fX0_seekPuts_2 FU)) [some (.ref 68), some (.int a1), none, none, none] [] m = fX0_seekPuts_0 a1 m := rfl
noncomputable def GX0_seekPuts : qG Unit := fun av m => match av with
  | [.ref 68, .int a1] => fX0_seekPuts a1 m
  | _ => none
theorem spX0_seekPuts : qSpV yX0_seekPuts (.code yX0_seekPuts cX0_seekPuts 5 none) 5 qfin 155 155 1 GX0_seekPuts := by
  intro av m m' hG
  unfold GX0_seekPuts at hG
  split at hG
  · rename_i a1
    rw [fX0_seekPuts_d] at hG
    exact ⟨qmeet (J := jV) (r := ((), m')) (av := [.ref 68, .int a1]) (by decide +kernel) (Nat.le_of_ble_eq_true rfl) (fun C w h hm hx hn => sX0_seekPuts_0 h hm hx (bX0_seekPuts_2 h hm hx FU)) ((lX0_seekPuts_0 _ _).trans hG) (Nat.le_of_ble_eq_true rfl), Or.inl ⟨68, _, 0, _, _, rfl, by decide, rfl, qCk_0, rfl⟩⟩
  · cases hG
theorem dX0_maySwap_0 : decode cX0_maySwap 0 = .ok (.aload_n 0, 1) := by decide +kernel
theorem dX0_maySwap_1 : decode cX0_maySwap 1 = .ok (.getfield 55, 3) := by decide +kernel
theorem dX0_maySwap_4 : decode cX0_maySwap 4 = .ok (.iload_n 1, 1) := by decide +kernel
theorem dX0_maySwap_5 : decode cX0_maySwap 5 = .ok (.invokevirtual 114, 3) := by decide +kernel
theorem dX0_maySwap_8 : decode cX0_maySwap 8 = .ok (.istore_n 3, 1) := by decide +kernel
theorem dX0_maySwap_9 : decode cX0_maySwap 9 = .ok (.aload_n 0, 1) := by decide +kernel
theorem dX0_maySwap_10 : decode cX0_maySwap 10 = .ok (.getfield 55, 3) := by decide +kernel
theorem dX0_maySwap_13 : decode cX0_maySwap 13 = .ok (.iload_n 2, 1) := by decide +kernel
theorem dX0_maySwap_14 : decode cX0_maySwap 14 = .ok (.invokevirtual 114, 3) := by decide +kernel
theorem dX0_maySwap_17 : decode cX0_maySwap 17 = .ok (.istore 4, 2) := by decide +kernel
theorem dX0_maySwap_19 : decode cX0_maySwap 19 = .ok (.aload_n 0, 1) := by decide +kernel
theorem dX0_maySwap_20 : decode cX0_maySwap 20 = .ok (.getfield 55, 3) := by decide +kernel
theorem dX0_maySwap_23 : decode cX0_maySwap 23 = .ok (.iload_n 1, 1) := by decide +kernel
theorem dX0_maySwap_24 : decode cX0_maySwap 24 = .ok (.invokevirtual 92, 3) := by decide +kernel
theorem dX0_maySwap_27 : decode cX0_maySwap 27 = .ok (.iload 4, 2) := by decide +kernel
theorem dX0_maySwap_29 : decode cX0_maySwap 29 = .ok (.invokestatic 126, 3) := by decide +kernel
theorem dX0_maySwap_32 : decode cX0_maySwap 32 = .ok (.istore 5, 2) := by decide +kernel
theorem dX0_maySwap_34 : decode cX0_maySwap 34 = .ok (.iload 5, 2) := by decide +kernel
theorem dX0_maySwap_36 : decode cX0_maySwap 36 = .ok (.ifCond .eq 36, 3) := by decide +kernel
theorem dX0_maySwap_39 : decode cX0_maySwap 39 = .ok (.aload_n 0, 1) := by decide +kernel
theorem dX0_maySwap_40 : decode cX0_maySwap 40 = .ok (.getfield 55, 3) := by decide +kernel
theorem dX0_maySwap_43 : decode cX0_maySwap 43 = .ok (.iload_n 1, 1) := by decide +kernel
theorem dX0_maySwap_44 : decode cX0_maySwap 44 = .ok (.iload 4, 2) := by decide +kernel
theorem dX0_maySwap_46 : decode cX0_maySwap 46 = .ok (.invokevirtual 101, 3) := by decide +kernel
theorem dX0_maySwap_49 : decode cX0_maySwap 49 = .ok (.aload_n 0, 1) := by decide +kernel
theorem dX0_maySwap_50 : decode cX0_maySwap 50 = .ok (.getfield 55, 3) := by decide +kernel
theorem dX0_maySwap_53 : decode cX0_maySwap 53 = .ok (.iload_n 2, 1) := by decide +kernel
theorem dX0_maySwap_54 : decode cX0_maySwap 54 = .ok (.invokevirtual 92, 3) := by decide +kernel
theorem dX0_maySwap_57 : decode cX0_maySwap 57 = .ok (.iload_n 3, 1) := by decide +kernel
theorem dX0_maySwap_58 : decode cX0_maySwap 58 = .ok (.invokestatic 126, 3) := by decide +kernel
theorem dX0_maySwap_61 : decode cX0_maySwap 61 = .ok (.istore 5, 2) := by decide +kernel
theorem dX0_maySwap_63 : decode cX0_maySwap 63 = .ok (.aload_n 0, 1) := by decide +kernel
theorem dX0_maySwap_64 : decode cX0_maySwap 64 = .ok (.getfield 55, 3) := by decide +kernel
theorem dX0_maySwap_67 : decode cX0_maySwap 67 = .ok (.iload_n 1, 1) := by decide +kernel
theorem dX0_maySwap_68 : decode cX0_maySwap 68 = .ok (.invokevirtual 114, 3) := by decide +kernel
theorem dX0_maySwap_71 : decode cX0_maySwap 71 = .ok (.pop, 1) := by decide +kernel
theorem dX0_maySwap_72 : decode cX0_maySwap 72 = .ok (.aload_n 0, 1) := by decide +kernel
theorem dX0_maySwap_73 : decode cX0_maySwap 73 = .ok (.getfield 55, 3) := by decide +kernel
theorem dX0_maySwap_76 : decode cX0_maySwap 76 = .ok (.iload_n 1, 1) := by decide +kernel
theorem dX0_maySwap_77 : decode cX0_maySwap 77 = .ok (.iload_n 3, 1) := by decide +kernel
theorem dX0_maySwap_78 : decode cX0_maySwap 78 = .ok (.invokevirtual 101, 3) := by decide +kernel
theorem dX0_maySwap_81 : decode cX0_maySwap 81 = .ok (.aload_n 0, 1) := by decide +kernel
theorem dX0_maySwap_82 : decode cX0_maySwap 82 = .ok (.getfield 55, 3) := by decide +kernel
theorem dX0_maySwap_85 : decode cX0_maySwap 85 = .ok (.iload_n 2, 1) := by decide +kernel
theorem dX0_maySwap_86 : decode cX0_maySwap 86 = .ok (.iload 4, 2) := by decide +kernel
theorem dX0_maySwap_88 : decode cX0_maySwap 88 = .ok (.invokevirtual 101, 3) := by decide +kernel
theorem dX0_maySwap_91 : decode cX0_maySwap 91 = .ok (.iload 5, 2) := by decide +kernel
theorem dX0_maySwap_93 : decode cX0_maySwap 93 = .ok (.ireturn, 1) := by decide +kernel
noncomputable def tX0_maySwap_36 : qT (Int32 × qM) :=
  oLa 0 (oGf 68 1 58 (oLi 1 (oLi 3 (oCv GX4_put 3 (oLa 0 (oGf 68 1 58 (oLi 2 (oLi 4 (oCv GX4_put 3 (oLi 5 (eZ)))))))))))
noncomputable def wX0_maySwap_36 (k : Int32 → Int32 → Int32 → Int32 → Int32 → qM → Option (Int32 × qM)) : qT (Int32 × qM) := fun lo st m => match lo, st with
  | [some (.ref 68), some (.int a1), some (.int a2), some (.int a3), some (.int a4), some (.int a5)], [] => k a1 a2 a3 a4 a5 m
  | _, _ => none
set_option maxRecDepth 20000 in
theorem sX0_maySwap_36 {C : qCx} {w : qWp} (h : qOk C w RX0 cX0_maySwap 6 4 155 155) (hm : qMt C (some .boolean)) (hx : qNx C) : qSnd C w 6 155 (qQf C w 155 155 jI) qfin 155 72 (tX0_maySwap_36) :=
  cLa (pc := 72) h dX0_maySwap_72 rfl (gGf (pc := 73) h dX0_maySwap_73 ff_X0_55_68 (Nat.le_of_ble_eq_true rfl) (Nat.le_of_ble_eq_true rfl) rfl (cLi (pc := 76) h dX0_maySwap_76 rfl (cLi (pc := 77) h dX0_maySwap_77 rfl (kCv (pc := 78) h (kd_X0_101 h dX0_maySwap_78) spX4_put (by decide) (by decide) (by decide) (by decide) (cLa (pc := 81) h dX0_maySwap_81 rfl (gGf (pc := 82) h dX0_maySwap_82 ff_X0_55_68 (Nat.le_of_ble_eq_true rfl) (Nat.le_of_ble_eq_true rfl) rfl (cLi (pc := 85) h dX0_maySwap_85 rfl (cLI (pc := 86) h dX0_maySwap_86 (kCv (pc := 88) h (kd_X0_101 h dX0_maySwap_88) spX4_put (by decide) (by decide) (by decide) (by decide) (cLI (pc := 91) h dX0_maySwap_91 (zZ (pc := 93) h hm (Nat.le_refl _) dX0_maySwap_93)))))))))))
set_option maxRecDepth 20000 in
theorem lX0_maySwap_36 (a1 : Int32) (a2 : Int32) (a3 : Int32) (a4 : Int32) (a5 : Int32) (m : qM) : tX0_maySwap_36 [some (.ref 68), some (.int a1), some (.int a2), some (.int a3), some (.int a4), some (.int a5)] [] m = fX0_maySwap_36 a1 a2 a3 a4 a5 m := rfl
theorem bX0_maySwap_36 {C : qCx} {w : qWp} (h : qOk C w RX0 cX0_maySwap 6 4 155 155) (hm : qMt C (some .boolean)) (hx : qNx C) : qSnd C w 6 155 (qQf C w 155 155 jI) qfin 155 72 (wX0_maySwap_36 fX0_maySwap_36) :=
  qSnd_of (fun lo st m x hr0 => by
    unfold wX0_maySwap_36 at hr0
    split at hr0
    · exact ⟨_, (qsub_e (qsub_e (qsub_e (qsub_e (qsub_e (qsub_e qsub_nil)))))), (lX0_maySwap_36 _ _ _ _ _ _).trans hr0⟩
    · cases hr0) (sX0_maySwap_36 h hm hx)
noncomputable def tX0_maySwap_0 (j36 : qT (Int32 × qM)) : qT (Int32 × qM) :=
  oLa 0 (oGf 68 1 58 (oLi 1 (oCi GX4_take 2 (oSi 3 (oLa 0 (oGf 68 1 58 (oLi 2 (oCi GX4_take 2 (oSi 4 (oLa 0 (oGf 68 1 58 (oLi 1 (oCi GX4_openSlots 2 (oLi 4 (oCi GX11_has 2 (oSi 5 (oLi 5 (oEq (j36) (oLa 0 (oGf 68 1 58 (oLi 1 (oLi 4 (oCv GX4_put 3 (oLa 0 (oGf 68 1 58 (oLi 2 (oCi GX4_openSlots 2 (oLi 3 (oCi GX11_has 2 (oSi 5 (oLa 0 (oGf 68 1 58 (oLi 1 (oCi GX4_take 2 (oPop (j36))))))))))))))))))))))))))))))))))))
set_option maxRecDepth 20000 in
theorem sX0_maySwap_0 {C : qCx} {w : qWp} (h : qOk C w RX0 cX0_maySwap 6 4 155 155) (hm : qMt C (some .boolean)) (hx : qNx C) {j36 : qT (Int32 × qM)} (k36 : qSnd C w 6 155 (qQf C w 155 155 jI) qfin 155 72 j36) : qSnd C w 6 155 (qQf C w 155 155 jI) qfin 155 0 (tX0_maySwap_0 j36) :=
  cLa (pc := 0) h dX0_maySwap_0 rfl (gGf (pc := 1) h dX0_maySwap_1 ff_X0_55_68 (Nat.le_of_ble_eq_true rfl) (Nat.le_of_ble_eq_true rfl) rfl (cLi (pc := 4) h dX0_maySwap_4 rfl (kCi (pc := 5) h (kd_X0_114 h dX0_maySwap_5) spX4_take (by decide) (by decide) (by decide) (by decide) (cSi (pc := 8) h dX0_maySwap_8 rfl (cLa (pc := 9) h dX0_maySwap_9 rfl (gGf (pc := 10) h dX0_maySwap_10 ff_X0_55_68 (Nat.le_of_ble_eq_true rfl) (Nat.le_of_ble_eq_true rfl) rfl (cLi (pc := 13) h dX0_maySwap_13 rfl (kCi (pc := 14) h (kd_X0_114 h dX0_maySwap_14) spX4_take (by decide) (by decide) (by decide) (by decide) (cSI (pc := 17) h dX0_maySwap_17 (cLa (pc := 19) h dX0_maySwap_19 rfl (gGf (pc := 20) h dX0_maySwap_20 ff_X0_55_68 (Nat.le_of_ble_eq_true rfl) (Nat.le_of_ble_eq_true rfl) rfl (cLi (pc := 23) h dX0_maySwap_23 rfl (kCi (pc := 24) h (kd_X0_92 h dX0_maySwap_24) spX4_openSlots (by decide) (by decide) (by decide) (by decide) (cLI (pc := 27) h dX0_maySwap_27 (kCi (pc := 29) h (kd_X0_126 h dX0_maySwap_29) spX11_has (by decide) (by decide) (by decide) (by decide) (cSI (pc := 32) h dX0_maySwap_32 (cLI (pc := 34) h dX0_maySwap_34 (jEq (pc := 36) h dX0_maySwap_36 rfl (k36) (cLa (pc := 39) h dX0_maySwap_39 rfl (gGf (pc := 40) h dX0_maySwap_40 ff_X0_55_68 (Nat.le_of_ble_eq_true rfl) (Nat.le_of_ble_eq_true rfl) rfl (cLi (pc := 43) h dX0_maySwap_43 rfl (cLI (pc := 44) h dX0_maySwap_44 (kCv (pc := 46) h (kd_X0_101 h dX0_maySwap_46) spX4_put (by decide) (by decide) (by decide) (by decide) (cLa (pc := 49) h dX0_maySwap_49 rfl (gGf (pc := 50) h dX0_maySwap_50 ff_X0_55_68 (Nat.le_of_ble_eq_true rfl) (Nat.le_of_ble_eq_true rfl) rfl (cLi (pc := 53) h dX0_maySwap_53 rfl (kCi (pc := 54) h (kd_X0_92 h dX0_maySwap_54) spX4_openSlots (by decide) (by decide) (by decide) (by decide) (cLi (pc := 57) h dX0_maySwap_57 rfl (kCi (pc := 58) h (kd_X0_126 h dX0_maySwap_58) spX11_has (by decide) (by decide) (by decide) (by decide) (cSI (pc := 61) h dX0_maySwap_61 (cLa (pc := 63) h dX0_maySwap_63 rfl (gGf (pc := 64) h dX0_maySwap_64 ff_X0_55_68 (Nat.le_of_ble_eq_true rfl) (Nat.le_of_ble_eq_true rfl) rfl (cLi (pc := 67) h dX0_maySwap_67 rfl (kCi (pc := 68) h (kd_X0_114 h dX0_maySwap_68) spX4_take (by decide) (by decide) (by decide) (by decide) (aPop (pc := 71) h dX0_maySwap_71 (k36))))))))))))))))))))))))))))))))))))
set_option maxRecDepth 20000 in
theorem lX0_maySwap_0 (a1 : Int32) (a2 : Int32) (m : qM) : tX0_maySwap_0 (wX0_maySwap_36 fX0_maySwap_36) [some (.ref 68), some (.int a1), some (.int a2), none, none, none] [] m = fX0_maySwap_0 a1 a2 m := rfl
noncomputable def GX0_maySwap : qG Int32 := fun av m => match av with
  | [.ref 68, .int a1, .int a2] => fX0_maySwap a1 a2 m
  | _ => none
theorem spX0_maySwap : qSpI yX0_maySwap (.code yX0_maySwap cX0_maySwap 6 (some .boolean)) 4 qfin 155 155 1 GX0_maySwap := by
  intro av m x m' hG
  unfold GX0_maySwap at hG
  split at hG
  · rename_i a1 a2
    rw [fX0_maySwap_d] at hG
    exact ⟨qmeet (J := jI) (r := (x, m')) (av := [.ref 68, .int a1, .int a2]) (by decide +kernel) (Nat.le_of_ble_eq_true rfl) (fun C w h hm hx hn => sX0_maySwap_0 h hm hx (bX0_maySwap_36 h hm hx)) ((lX0_maySwap_0 _ _ _).trans hG) (Nat.le_of_ble_eq_true rfl), Or.inl ⟨68, _, 0, _, _, rfl, by decide, rfl, qCk_0, rfl⟩⟩
  · cases hG

