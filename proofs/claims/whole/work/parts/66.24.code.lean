/-! methods (by program): X0_seekSwaps, X0_swap, X0_changeOnce, X1_forget, X4_laidOfTeacher, X7_slotMinutes, X9_fill, X9_fill, X9_fill, X1_prepare, X9_awayUpTo, X4_askIn, X11_isPolicy, X10_policyOf, X4_teacherOf, X4_isAsk, X3_walkBetween -/
theorem im_X0_maySwap : Jvm.Cond.instanceMethod yX0_maySwap ∈ qTw := qm5 (List.mem_of_getElem? (i := 12) (by decide +kernel)) (by decide +kernel)
theorem se_X0_maySwap : Jvm.Cond.selects yX0_maySwap.cls yX0_maySwap yX0_maySwap ∈ qTw := List.mem_filter.mpr ⟨List.mem_append_left _ (List.mem_of_getElem? (i := 18) (by decide +kernel)), rfl⟩
theorem co_X0_maySwap : Jvm.Cond.code yX0_maySwap cX0_maySwap 6 (some .boolean) ∈ qTw := qm5 (List.mem_of_getElem? (i := 13) (by decide +kernel)) (by decide +kernel)
theorem yk_X0_maySwap : qYk yX0_maySwap 2 := ⟨⟨by decide +kernel, by decide +kernel⟩, by decide +kernel⟩
theorem ml_X0_166 : Jvm.Cond.methodLink RX0 166 yX0_maySwap ∈ qTw := qm5 (List.mem_of_getElem? (i := 10) (by decide +kernel)) (by decide +kernel)
theorem kd_X0_166 {C : qCx} {w : qWp} {cc : ByteArray} {nL dp n0 n1 pc : Nat} (h : qOk C w RX0 cc nL dp n0 n1) (d : decode cc pc = .ok (.invokevirtual 166, 3)) : qCallOk C w nL dp n0 n1 pc 3 1 yX0_maySwap (.code yX0_maySwap cX0_maySwap 6 (some .boolean)) := kindV h d ml_X0_166 im_X0_maySwap se_X0_maySwap in_ParentEve_Chooser co_X0_maySwap yk_X0_maySwap (by decide)
theorem dX0_seekSwaps_0 : decode cX0_seekSwaps 0 = .ok (.iconst 0, 1) := by decide +kernel
theorem dX0_seekSwaps_1 : decode cX0_seekSwaps 1 = .ok (.istore_n 1, 1) := by decide +kernel
theorem dX0_seekSwaps_2 : decode cX0_seekSwaps 2 = .ok (.iload_n 1, 1) := by decide +kernel
theorem dX0_seekSwaps_3 : decode cX0_seekSwaps 3 = .ok (.aload_n 0, 1) := by decide +kernel
theorem dX0_seekSwaps_4 : decode cX0_seekSwaps 4 = .ok (.getfield 55, 3) := by decide +kernel
theorem dX0_seekSwaps_7 : decode cX0_seekSwaps 7 = .ok (.invokevirtual 69, 3) := by decide +kernel
theorem dX0_seekSwaps_10 : decode cX0_seekSwaps 10 = .ok (.if_icmp .ge 131, 3) := by decide +kernel
theorem dX0_seekSwaps_13 : decode cX0_seekSwaps 13 = .ok (.iload_n 1, 1) := by decide +kernel
theorem dX0_seekSwaps_14 : decode cX0_seekSwaps 14 = .ok (.iconst 1, 1) := by decide +kernel
theorem dX0_seekSwaps_15 : decode cX0_seekSwaps 15 = .ok (.iadd, 1) := by decide +kernel
theorem dX0_seekSwaps_16 : decode cX0_seekSwaps 16 = .ok (.istore_n 2, 1) := by decide +kernel
theorem dX0_seekSwaps_17 : decode cX0_seekSwaps 17 = .ok (.iload_n 2, 1) := by decide +kernel
theorem dX0_seekSwaps_18 : decode cX0_seekSwaps 18 = .ok (.aload_n 0, 1) := by decide +kernel
theorem dX0_seekSwaps_19 : decode cX0_seekSwaps 19 = .ok (.getfield 55, 3) := by decide +kernel
theorem dX0_seekSwaps_22 : decode cX0_seekSwaps 22 = .ok (.invokevirtual 69, 3) := by decide +kernel
theorem dX0_seekSwaps_25 : decode cX0_seekSwaps 25 = .ok (.if_icmp .ge 110, 3) := by decide +kernel
theorem dX0_seekSwaps_28 : decode cX0_seekSwaps 28 = .ok (.aload_n 0, 1) := by decide +kernel
theorem dX0_seekSwaps_29 : decode cX0_seekSwaps 29 = .ok (.getfield 55, 3) := by decide +kernel
theorem dX0_seekSwaps_32 : decode cX0_seekSwaps 32 = .ok (.iload_n 1, 1) := by decide +kernel
theorem dX0_seekSwaps_33 : decode cX0_seekSwaps 33 = .ok (.invokevirtual 85, 3) := by decide +kernel
theorem dX0_seekSwaps_36 : decode cX0_seekSwaps 36 = .ok (.ifCond .eq 93, 3) := by decide +kernel
theorem dX0_seekSwaps_39 : decode cX0_seekSwaps 39 = .ok (.aload_n 0, 1) := by decide +kernel
theorem dX0_seekSwaps_40 : decode cX0_seekSwaps 40 = .ok (.getfield 55, 3) := by decide +kernel
theorem dX0_seekSwaps_43 : decode cX0_seekSwaps 43 = .ok (.iload_n 2, 1) := by decide +kernel
theorem dX0_seekSwaps_44 : decode cX0_seekSwaps 44 = .ok (.invokevirtual 85, 3) := by decide +kernel
theorem dX0_seekSwaps_47 : decode cX0_seekSwaps 47 = .ok (.ifCond .eq 82, 3) := by decide +kernel
theorem dX0_seekSwaps_50 : decode cX0_seekSwaps 50 = .ok (.aload_n 0, 1) := by decide +kernel
theorem dX0_seekSwaps_51 : decode cX0_seekSwaps 51 = .ok (.getfield 55, 3) := by decide +kernel
theorem dX0_seekSwaps_54 : decode cX0_seekSwaps 54 = .ok (.iload_n 1, 1) := by decide +kernel
theorem dX0_seekSwaps_55 : decode cX0_seekSwaps 55 = .ok (.invokevirtual 76, 3) := by decide +kernel
theorem dX0_seekSwaps_58 : decode cX0_seekSwaps 58 = .ok (.aload_n 0, 1) := by decide +kernel
theorem dX0_seekSwaps_59 : decode cX0_seekSwaps 59 = .ok (.getfield 55, 3) := by decide +kernel
theorem dX0_seekSwaps_62 : decode cX0_seekSwaps 62 = .ok (.iload_n 2, 1) := by decide +kernel
theorem dX0_seekSwaps_63 : decode cX0_seekSwaps 63 = .ok (.invokevirtual 76, 3) := by decide +kernel
theorem dX0_seekSwaps_66 : decode cX0_seekSwaps 66 = .ok (.if_icmp .eq 63, 3) := by decide +kernel
theorem dX0_seekSwaps_69 : decode cX0_seekSwaps 69 = .ok (.aload_n 0, 1) := by decide +kernel
theorem dX0_seekSwaps_70 : decode cX0_seekSwaps 70 = .ok (.getfield 55, 3) := by decide +kernel
theorem dX0_seekSwaps_73 : decode cX0_seekSwaps 73 = .ok (.iload_n 1, 1) := by decide +kernel
theorem dX0_seekSwaps_74 : decode cX0_seekSwaps 74 = .ok (.aload_n 0, 1) := by decide +kernel
theorem dX0_seekSwaps_75 : decode cX0_seekSwaps 75 = .ok (.getfield 55, 3) := by decide +kernel
theorem dX0_seekSwaps_78 : decode cX0_seekSwaps 78 = .ok (.iload_n 2, 1) := by decide +kernel
theorem dX0_seekSwaps_79 : decode cX0_seekSwaps 79 = .ok (.invokevirtual 120, 3) := by decide +kernel
theorem dX0_seekSwaps_82 : decode cX0_seekSwaps 82 = .ok (.invokevirtual 130, 3) := by decide +kernel
theorem dX0_seekSwaps_85 : decode cX0_seekSwaps 85 = .ok (.aload_n 0, 1) := by decide +kernel
theorem dX0_seekSwaps_86 : decode cX0_seekSwaps 86 = .ok (.getfield 55, 3) := by decide +kernel
theorem dX0_seekSwaps_89 : decode cX0_seekSwaps 89 = .ok (.iload_n 2, 1) := by decide +kernel
theorem dX0_seekSwaps_90 : decode cX0_seekSwaps 90 = .ok (.aload_n 0, 1) := by decide +kernel
theorem dX0_seekSwaps_91 : decode cX0_seekSwaps 91 = .ok (.getfield 55, 3) := by decide +kernel
theorem dX0_seekSwaps_94 : decode cX0_seekSwaps 94 = .ok (.iload_n 1, 1) := by decide +kernel
theorem dX0_seekSwaps_95 : decode cX0_seekSwaps 95 = .ok (.invokevirtual 120, 3) := by decide +kernel
theorem dX0_seekSwaps_98 : decode cX0_seekSwaps 98 = .ok (.invokevirtual 130, 3) := by decide +kernel
theorem dX0_seekSwaps_101 : decode cX0_seekSwaps 101 = .ok (.ladd, 1) := by decide +kernel
theorem dX0_seekSwaps_102 : decode cX0_seekSwaps 102 = .ok (.lstore_n 3, 1) := by decide +kernel
theorem dX0_seekSwaps_103 : decode cX0_seekSwaps 103 = .ok (.lload_n 3, 1) := by decide +kernel
theorem dX0_seekSwaps_104 : decode cX0_seekSwaps 104 = .ok (.aload_n 0, 1) := by decide +kernel
theorem dX0_seekSwaps_105 : decode cX0_seekSwaps 105 = .ok (.getfield 48, 3) := by decide +kernel
theorem dX0_seekSwaps_108 : decode cX0_seekSwaps 108 = .ok (.lcmp, 1) := by decide +kernel
theorem dX0_seekSwaps_109 : decode cX0_seekSwaps 109 = .ok (.ifCond .le 20, 3) := by decide +kernel
theorem dX0_seekSwaps_112 : decode cX0_seekSwaps 112 = .ok (.aload_n 0, 1) := by decide +kernel
theorem dX0_seekSwaps_113 : decode cX0_seekSwaps 113 = .ok (.iload_n 1, 1) := by decide +kernel
theorem dX0_seekSwaps_114 : decode cX0_seekSwaps 114 = .ok (.iload_n 2, 1) := by decide +kernel
theorem dX0_seekSwaps_115 : decode cX0_seekSwaps 115 = .ok (.invokevirtual 166, 3) := by decide +kernel
theorem dX0_seekSwaps_118 : decode cX0_seekSwaps 118 = .ok (.ifCond .eq 11, 3) := by decide +kernel
theorem dX0_seekSwaps_121 : decode cX0_seekSwaps 121 = .ok (.aload_n 0, 1) := by decide +kernel
theorem dX0_seekSwaps_122 : decode cX0_seekSwaps 122 = .ok (.iload_n 1, 1) := by decide +kernel
theorem dX0_seekSwaps_123 : decode cX0_seekSwaps 123 = .ok (.iload_n 2, 1) := by decide +kernel
theorem dX0_seekSwaps_124 : decode cX0_seekSwaps 124 = .ok (.iconst (-1), 1) := by decide +kernel
theorem dX0_seekSwaps_125 : decode cX0_seekSwaps 125 = .ok (.lload_n 3, 1) := by decide +kernel
theorem dX0_seekSwaps_126 : decode cX0_seekSwaps 126 = .ok (.invokevirtual 162, 3) := by decide +kernel
theorem dX0_seekSwaps_129 : decode cX0_seekSwaps 129 = .ok (.iinc 2 1, 3) := by decide +kernel
theorem dX0_seekSwaps_132 : decode cX0_seekSwaps 132 = .ok (.goto (-115), 3) := by decide +kernel
theorem dX0_seekSwaps_135 : decode cX0_seekSwaps 135 = .ok (.iinc 1 1, 3) := by decide +kernel
theorem dX0_seekSwaps_138 : decode cX0_seekSwaps 138 = .ok (.goto (-136), 3) := by decide +kernel
theorem dX0_seekSwaps_141 : decode cX0_seekSwaps 141 = .ok (.return_, 1) := by decide +kernel
noncomputable def tX0_seekSwaps_69 (j11 : qT (Unit × qM)) : qT (Unit × qM) :=
  oInc 2 (1 : Int32) (j11)
noncomputable def wX0_seekSwaps_69 (k : Int32 → Int32 → qM → Option (Unit × qM)) : qT (Unit × qM) := fun lo st m => match lo, st with
  | [some (.ref 68), some (.int a1), some (.int a2), _, _], [] => k a1 a2 m
  | _, _ => none
noncomputable def wX0_seekSwaps_11 (k : Int32 → Int32 → qM → Option (Unit × qM)) : qT (Unit × qM) := fun lo st m => match lo, st with
  | [some (.ref 68), some (.int a1), some (.int a2), _, _], [] => k a1 a2 m
  | _, _ => none
set_option maxRecDepth 20000 in
theorem sX0_seekSwaps_69 {C : qCx} {w : qWp} (h : qOk C w RX0 cX0_seekSwaps 5 5 155 155) (hm : qMt C none) (hx : qNx C) {j11 : qT (Unit × qM)} (k11 : qSnd C w 5 155 (qQf C w 155 155 jV) qfin 155 17 j11) : qSnd C w 5 155 (qQf C w 155 155 jV) qfin 155 129 (tX0_seekSwaps_69 j11) :=
  cInc (pc := 129) h dX0_seekSwaps_129 rfl (jGo (pc := 132) h dX0_seekSwaps_132 rfl (k11))
set_option maxRecDepth 20000 in
theorem lX0_seekSwaps_69 (k11 : Int32 → Int32 → qM → Option (Unit × qM)) (a1 : Int32) (a2 : Int32) (m : qM) : tX0_seekSwaps_69 (wX0_seekSwaps_11 k11) [some (.ref 68), some (.int a1), some (.int a2), none, none] [] m = fX0_seekSwaps_69 k11 a1 a2 m := rfl
theorem bX0_seekSwaps_69 {C : qCx} {w : qWp} (h : qOk C w RX0 cX0_seekSwaps 5 5 155 155) (hm : qMt C none) (hx : qNx C) {k11 : Int32 → Int32 → qM → Option (Unit × qM)} (h11 : qSnd C w 5 155 (qQf C w 155 155 jV) qfin 155 17 (wX0_seekSwaps_11 k11)) : qSnd C w 5 155 (qQf C w 155 155 jV) qfin 155 129 (wX0_seekSwaps_69 (fX0_seekSwaps_69 k11)) :=
  qSnd_of (fun lo st m x hr0 => by
    unfold wX0_seekSwaps_69 at hr0
    split at hr0
    · exact ⟨_, (qsub_e (qsub_e (qsub_e (qsub_n (qsub_n qsub_nil))))), (lX0_seekSwaps_69 _ _ _ _).trans hr0⟩
    · cases hr0) (sX0_seekSwaps_69 h hm hx h11)
noncomputable def tX0_seekSwaps_11 (j2 : qT (Unit × qM)) (j69 : qT (Unit × qM)) : qT (Unit × qM) :=
  oLi 2 (oLa 0 (oGf 68 1 58 (oCi GX4_asks 1 (oCGe (oInc 1 (1 : Int32) (j2)) (oLa 0 (oGf 68 1 58 (oLi 1 (oCi GX4_isLaid 2 (oEq (j69) (oLa 0 (oGf 68 1 58 (oLi 2 (oCi GX4_isLaid 2 (oEq (j69) (oLa 0 (oGf 68 1 58 (oLi 1 (oCi GX4_familyOf 2 (oLa 0 (oGf 68 1 58 (oLi 2 (oCi GX4_familyOf 2 (oCEq (j69) (oLa 0 (oGf 68 1 58 (oLi 1 (oLa 0 (oGf 68 1 58 (oLi 2 (oCi GX4_slotOf 2 (oCl GX4_gain 3 (oLa 0 (oGf 68 1 58 (oLi 2 (oLa 0 (oGf 68 1 58 (oLi 1 (oCi GX4_slotOf 2 (oCl GX4_gain 3 (oJJ (· + ·) (oSl 3 (oLl 3 (oLa 0 (oGl 68 13 (oLcmp (oLe (j69) (oLa 0 (oLi 1 (oLi 2 (oCi GX0_maySwap 3 (oEq (j69) (oLa 0 (oLi 1 (oLi 2 (oC (.int (-1 : Int32)) (oLl 3 (oCv GX0_keepChange 5 (j69))))))))))))))))))))))))))))))))))))))))))))))))))))))))))
noncomputable def wX0_seekSwaps_2 (k : Int32 → qM → Option (Unit × qM)) : qT (Unit × qM) := fun lo st m => match lo, st with
  | [some (.ref 68), some (.int a1), _, _, _], [] => k a1 m
  | _, _ => none
set_option maxRecDepth 20000 in
theorem sX0_seekSwaps_11 {C : qCx} {w : qWp} (h : qOk C w RX0 cX0_seekSwaps 5 5 155 155) (hm : qMt C none) (hx : qNx C) {j2 : qT (Unit × qM)} {j69 : qT (Unit × qM)} (k2 : qSnd C w 5 155 (qQf C w 155 155 jV) qfin 155 2 j2) (k69 : qSnd C w 5 155 (qQf C w 155 155 jV) qfin 155 129 j69) : qSnd C w 5 155 (qQf C w 155 155 jV) qfin 155 17 (tX0_seekSwaps_11 j2 j69) :=
  cLi (pc := 17) h dX0_seekSwaps_17 rfl (cLa (pc := 18) h dX0_seekSwaps_18 rfl (gGf (pc := 19) h dX0_seekSwaps_19 ff_X0_55_68 (Nat.le_of_ble_eq_true rfl) (Nat.le_of_ble_eq_true rfl) rfl (kCi (pc := 22) h (kd_X0_69 h dX0_seekSwaps_22) spX4_asks (by decide) (by decide) (by decide) (by decide) (jCGe (pc := 25) h dX0_seekSwaps_25 rfl (cInc (pc := 135) h dX0_seekSwaps_135 rfl (jGo (pc := 138) h dX0_seekSwaps_138 rfl (k2))) (cLa (pc := 28) h dX0_seekSwaps_28 rfl (gGf (pc := 29) h dX0_seekSwaps_29 ff_X0_55_68 (Nat.le_of_ble_eq_true rfl) (Nat.le_of_ble_eq_true rfl) rfl (cLi (pc := 32) h dX0_seekSwaps_32 rfl (kCi (pc := 33) h (kd_X0_85 h dX0_seekSwaps_33) spX4_isLaid (by decide) (by decide) (by decide) (by decide) (jEq (pc := 36) h dX0_seekSwaps_36 rfl (k69) (cLa (pc := 39) h dX0_seekSwaps_39 rfl (gGf (pc := 40) h dX0_seekSwaps_40 ff_X0_55_68 (Nat.le_of_ble_eq_true rfl) (Nat.le_of_ble_eq_true rfl) rfl (cLi (pc := 43) h dX0_seekSwaps_43 rfl (kCi (pc := 44) h (kd_X0_85 h dX0_seekSwaps_44) spX4_isLaid (by decide) (by decide) (by decide) (by decide) (jEq (pc := 47) h dX0_seekSwaps_47 rfl (k69) (cLa (pc := 50) h dX0_seekSwaps_50 rfl (gGf (pc := 51) h dX0_seekSwaps_51 ff_X0_55_68 (Nat.le_of_ble_eq_true rfl) (Nat.le_of_ble_eq_true rfl) rfl (cLi (pc := 54) h dX0_seekSwaps_54 rfl (kCi (pc := 55) h (kd_X0_76 h dX0_seekSwaps_55) spX4_familyOf (by decide) (by decide) (by decide) (by decide) (cLa (pc := 58) h dX0_seekSwaps_58 rfl (gGf (pc := 59) h dX0_seekSwaps_59 ff_X0_55_68 (Nat.le_of_ble_eq_true rfl) (Nat.le_of_ble_eq_true rfl) rfl (cLi (pc := 62) h dX0_seekSwaps_62 rfl (kCi (pc := 63) h (kd_X0_76 h dX0_seekSwaps_63) spX4_familyOf (by decide) (by decide) (by decide) (by decide) (jCEq (pc := 66) h dX0_seekSwaps_66 rfl (k69) (cLa (pc := 69) h dX0_seekSwaps_69 rfl (gGf (pc := 70) h dX0_seekSwaps_70 ff_X0_55_68 (Nat.le_of_ble_eq_true rfl) (Nat.le_of_ble_eq_true rfl) rfl (cLi (pc := 73) h dX0_seekSwaps_73 rfl (cLa (pc := 74) h dX0_seekSwaps_74 rfl (gGf (pc := 75) h dX0_seekSwaps_75 ff_X0_55_68 (Nat.le_of_ble_eq_true rfl) (Nat.le_of_ble_eq_true rfl) rfl (cLi (pc := 78) h dX0_seekSwaps_78 rfl (kCi (pc := 79) h (kd_X0_120 h dX0_seekSwaps_79) spX4_slotOf (by decide) (by decide) (by decide) (by decide) (kCl (pc := 82) h (kd_X0_130 h dX0_seekSwaps_82) spX4_gain (by decide) (by decide) (by decide) (by decide) (cLa (pc := 85) h dX0_seekSwaps_85 rfl (gGf (pc := 86) h dX0_seekSwaps_86 ff_X0_55_68 (Nat.le_of_ble_eq_true rfl) (Nat.le_of_ble_eq_true rfl) rfl (cLi (pc := 89) h dX0_seekSwaps_89 rfl (cLa (pc := 90) h dX0_seekSwaps_90 rfl (gGf (pc := 91) h dX0_seekSwaps_91 ff_X0_55_68 (Nat.le_of_ble_eq_true rfl) (Nat.le_of_ble_eq_true rfl) rfl (cLi (pc := 94) h dX0_seekSwaps_94 rfl (kCi (pc := 95) h (kd_X0_120 h dX0_seekSwaps_95) spX4_slotOf (by decide) (by decide) (by decide) (by decide) (kCl (pc := 98) h (kd_X0_130 h dX0_seekSwaps_98) spX4_gain (by decide) (by decide) (by decide) (by decide) (aLadd (pc := 101) h dX0_seekSwaps_101 (cSl (pc := 102) h dX0_seekSwaps_102 rfl (cLl (pc := 103) h dX0_seekSwaps_103 rfl (cLa (pc := 104) h dX0_seekSwaps_104 rfl (gGl (pc := 105) h dX0_seekSwaps_105 ff_X0_48_68 (Nat.le_of_ble_eq_true rfl) (Nat.le_of_ble_eq_true rfl) (aLcmp (pc := 108) h dX0_seekSwaps_108 (jLe (pc := 109) h dX0_seekSwaps_109 rfl (k69) (cLa (pc := 112) h dX0_seekSwaps_112 rfl (cLi (pc := 113) h dX0_seekSwaps_113 rfl (cLi (pc := 114) h dX0_seekSwaps_114 rfl (kCi (pc := 115) h (kd_X0_166 h dX0_seekSwaps_115) spX0_maySwap (by decide) (by decide) (by decide) (by decide) (jEq (pc := 118) h dX0_seekSwaps_118 rfl (k69) (cLa (pc := 121) h dX0_seekSwaps_121 rfl (cLi (pc := 122) h dX0_seekSwaps_122 rfl (cLi (pc := 123) h dX0_seekSwaps_123 rfl (cC (pc := 124) h dX0_seekSwaps_124 rfl (cLl (pc := 125) h dX0_seekSwaps_125 rfl (kCv (pc := 126) h (kd_X0_162 h dX0_seekSwaps_126) spX0_keepChange (by decide) (by decide) (by decide) (by decide) (k69))))))))))))))))))))))))))))))))))))))))))))))))))))))))))
set_option maxRecDepth 20000 in
theorem lX0_seekSwaps_11 (k2 : Int32 → qM → Option (Unit × qM)) (n : Nat) (a1 : Int32) (a2 : Int32) (m : qM) : tX0_seekSwaps_11 (wX0_seekSwaps_2 k2) (wX0_seekSwaps_69 (fX0_seekSwaps_69 (fX0_seekSwaps_11 k2 n))) [some (.ref 68), some (.int a1), some (.int a2), none, none] [] m = fX0_seekSwaps_11 k2 (n + 1) a1 a2 m := rfl
theorem bX0_seekSwaps_11 {C : qCx} {w : qWp} (h : qOk C w RX0 cX0_seekSwaps 5 5 155 155) (hm : qMt C none) (hx : qNx C) {k2 : Int32 → qM → Option (Unit × qM)} (h2 : qSnd C w 5 155 (qQf C w 155 155 jV) qfin 155 2 (wX0_seekSwaps_2 k2)) : ∀ n : Nat, qSnd C w 5 155 (qQf C w 155 155 jV) qfin 155 17 (wX0_seekSwaps_11 (fX0_seekSwaps_11 k2 n))
  | 0 => qSnd_of0 (fun lo st m x hr0 => by
    unfold wX0_seekSwaps_11 at hr0
    split at hr0
    · cases hr0
    · cases hr0)
  | n + 1 => by
    have ih := bX0_seekSwaps_11 h hm hx h2 n
    exact qSnd_of (fun lo st m x hr0 => by
    unfold wX0_seekSwaps_11 at hr0
    split at hr0
    · exact ⟨_, (qsub_e (qsub_e (qsub_e (qsub_n (qsub_n qsub_nil))))), (lX0_seekSwaps_11 _ n _ _ _).trans hr0⟩
    · cases hr0) (sX0_seekSwaps_11 h hm hx h2 (bX0_seekSwaps_69 h hm hx ih))
noncomputable def tX0_seekSwaps_2 (j11 : qT (Unit × qM)) : qT (Unit × qM) :=
  oLi 1 (oLa 0 (oGf 68 1 58 (oCi GX4_asks 1 (oCGe (eV) (oLi 1 (oC (.int (1 : Int32)) (o2 (· + ·) (oSi 2 (j11)))))))))
set_option maxRecDepth 20000 in
theorem sX0_seekSwaps_2 {C : qCx} {w : qWp} (h : qOk C w RX0 cX0_seekSwaps 5 5 155 155) (hm : qMt C none) (hx : qNx C) {j11 : qT (Unit × qM)} (k11 : qSnd C w 5 155 (qQf C w 155 155 jV) qfin 155 17 j11) : qSnd C w 5 155 (qQf C w 155 155 jV) qfin 155 2 (tX0_seekSwaps_2 j11) :=
  cLi (pc := 2) h dX0_seekSwaps_2 rfl (cLa (pc := 3) h dX0_seekSwaps_3 rfl (gGf (pc := 4) h dX0_seekSwaps_4 ff_X0_55_68 (Nat.le_of_ble_eq_true rfl) (Nat.le_of_ble_eq_true rfl) rfl (kCi (pc := 7) h (kd_X0_69 h dX0_seekSwaps_7) spX4_asks (by decide) (by decide) (by decide) (by decide) (jCGe (pc := 10) h dX0_seekSwaps_10 rfl (zV (pc := 141) h hm (Nat.le_refl _) dX0_seekSwaps_141) (cLi (pc := 13) h dX0_seekSwaps_13 rfl (cC (pc := 14) h dX0_seekSwaps_14 rfl (aAdd (pc := 15) h dX0_seekSwaps_15 (cSi (pc := 16) h dX0_seekSwaps_16 rfl (k11)))))))))
set_option maxRecDepth 20000 in
theorem lX0_seekSwaps_2 (n : Nat) (a1 : Int32) (m : qM) : tX0_seekSwaps_2 (wX0_seekSwaps_11 (fX0_seekSwaps_11 (fX0_seekSwaps_2 n) FU)) [some (.ref 68), some (.int a1), none, none, none] [] m = fX0_seekSwaps_2 (n + 1) a1 m := rfl
theorem bX0_seekSwaps_2 {C : qCx} {w : qWp} (h : qOk C w RX0 cX0_seekSwaps 5 5 155 155) (hm : qMt C none) (hx : qNx C) : ∀ n : Nat, qSnd C w 5 155 (qQf C w 155 155 jV) qfin 155 2 (wX0_seekSwaps_2 (fX0_seekSwaps_2 n))
  | 0 => qSnd_of0 (fun lo st m x hr0 => by
    unfold wX0_seekSwaps_2 at hr0
    split at hr0
    · cases hr0
    · cases hr0)
  | n + 1 => by
    have ih := bX0_seekSwaps_2 h hm hx n
    exact qSnd_of (fun lo st m x hr0 => by
    unfold wX0_seekSwaps_2 at hr0
    split at hr0
    · exact ⟨_, (qsub_e (qsub_e (qsub_n (qsub_n (qsub_n qsub_nil))))), (lX0_seekSwaps_2 n _ _).trans hr0⟩
    · cases hr0) (sX0_seekSwaps_2 h hm hx (bX0_seekSwaps_11 h hm hx ih FU))
noncomputable def tX0_seekSwaps_0 (j2 : qT (Unit × qM)) : qT (Unit × qM) :=
  oC (.int (0 : Int32)) (oSi 1 (j2))
set_option maxRecDepth 20000 in
theorem sX0_seekSwaps_0 {C : qCx} {w : qWp} (h : qOk C w RX0 cX0_seekSwaps 5 5 155 155) (hm : qMt C none) (hx : qNx C) {j2 : qT (Unit × qM)} (k2 : qSnd C w 5 155 (qQf C w 155 155 jV) qfin 155 2 j2) : qSnd C w 5 155 (qQf C w 155 155 jV) qfin 155 0 (tX0_seekSwaps_0 j2) :=
  cC (pc := 0) h dX0_seekSwaps_0 rfl (cSi (pc := 1) h dX0_seekSwaps_1 rfl (k2))
set_option maxRecDepth 20000 in
theorem lX0_seekSwaps_0 (m : qM) : tX0_seekSwaps_0 (wX0_seekSwaps_2 (fX0_seekSwaps_2 FU)) [some (.ref 68), none, none, none, none] [] m = fX0_seekSwaps_0 m := rfl
noncomputable def GX0_seekSwaps : qG Unit := fun av m => match av with
  | [.ref 68] => fX0_seekSwaps m
  | _ => none
theorem spX0_seekSwaps : qSpV yX0_seekSwaps (.code yX0_seekSwaps cX0_seekSwaps 5 none) 5 qfin 155 155 1 GX0_seekSwaps := by
  intro av m m' hG
  unfold GX0_seekSwaps at hG
  split at hG
  · rw [fX0_seekSwaps_d] at hG
    exact ⟨qmeet (J := jV) (r := ((), m')) (av := [.ref 68]) (by decide +kernel) (Nat.le_of_ble_eq_true rfl) (fun C w h hm hx hn => sX0_seekSwaps_0 h hm hx (bX0_seekSwaps_2 h hm hx FU)) ((lX0_seekSwaps_0 _).trans hG) (Nat.le_of_ble_eq_true rfl), Or.inl ⟨68, _, 0, _, _, rfl, by decide, rfl, qCk_0, rfl⟩⟩
  · cases hG
theorem dX0_swap_0 : decode cX0_swap 0 = .ok (.aload_n 0, 1) := by decide +kernel
theorem dX0_swap_1 : decode cX0_swap 1 = .ok (.getfield 55, 3) := by decide +kernel
theorem dX0_swap_4 : decode cX0_swap 4 = .ok (.iload_n 1, 1) := by decide +kernel
theorem dX0_swap_5 : decode cX0_swap 5 = .ok (.invokevirtual 114, 3) := by decide +kernel
theorem dX0_swap_8 : decode cX0_swap 8 = .ok (.istore_n 3, 1) := by decide +kernel
theorem dX0_swap_9 : decode cX0_swap 9 = .ok (.aload_n 0, 1) := by decide +kernel
theorem dX0_swap_10 : decode cX0_swap 10 = .ok (.getfield 55, 3) := by decide +kernel
theorem dX0_swap_13 : decode cX0_swap 13 = .ok (.iload_n 2, 1) := by decide +kernel
theorem dX0_swap_14 : decode cX0_swap 14 = .ok (.invokevirtual 114, 3) := by decide +kernel
theorem dX0_swap_17 : decode cX0_swap 17 = .ok (.istore 4, 2) := by decide +kernel
theorem dX0_swap_19 : decode cX0_swap 19 = .ok (.aload_n 0, 1) := by decide +kernel
theorem dX0_swap_20 : decode cX0_swap 20 = .ok (.getfield 55, 3) := by decide +kernel
theorem dX0_swap_23 : decode cX0_swap 23 = .ok (.iload_n 1, 1) := by decide +kernel
theorem dX0_swap_24 : decode cX0_swap 24 = .ok (.iload 4, 2) := by decide +kernel
theorem dX0_swap_26 : decode cX0_swap 26 = .ok (.invokevirtual 101, 3) := by decide +kernel
theorem dX0_swap_29 : decode cX0_swap 29 = .ok (.aload_n 0, 1) := by decide +kernel
theorem dX0_swap_30 : decode cX0_swap 30 = .ok (.getfield 55, 3) := by decide +kernel
theorem dX0_swap_33 : decode cX0_swap 33 = .ok (.iload_n 2, 1) := by decide +kernel
theorem dX0_swap_34 : decode cX0_swap 34 = .ok (.iload_n 3, 1) := by decide +kernel
theorem dX0_swap_35 : decode cX0_swap 35 = .ok (.invokevirtual 101, 3) := by decide +kernel
theorem dX0_swap_38 : decode cX0_swap 38 = .ok (.return_, 1) := by decide +kernel
noncomputable def tX0_swap_0 : qT (Unit × qM) :=
  oLa 0 (oGf 68 1 58 (oLi 1 (oCi GX4_take 2 (oSi 3 (oLa 0 (oGf 68 1 58 (oLi 2 (oCi GX4_take 2 (oSi 4 (oLa 0 (oGf 68 1 58 (oLi 1 (oLi 4 (oCv GX4_put 3 (oLa 0 (oGf 68 1 58 (oLi 2 (oLi 3 (oCv GX4_put 3 (eV))))))))))))))))))))
set_option maxRecDepth 20000 in
theorem sX0_swap_0 {C : qCx} {w : qWp} (h : qOk C w RX0 cX0_swap 5 4 155 155) (hm : qMt C none) (hx : qNx C) : qSnd C w 5 155 (qQf C w 155 155 jV) qfin 155 0 (tX0_swap_0) :=
  cLa (pc := 0) h dX0_swap_0 rfl (gGf (pc := 1) h dX0_swap_1 ff_X0_55_68 (Nat.le_of_ble_eq_true rfl) (Nat.le_of_ble_eq_true rfl) rfl (cLi (pc := 4) h dX0_swap_4 rfl (kCi (pc := 5) h (kd_X0_114 h dX0_swap_5) spX4_take (by decide) (by decide) (by decide) (by decide) (cSi (pc := 8) h dX0_swap_8 rfl (cLa (pc := 9) h dX0_swap_9 rfl (gGf (pc := 10) h dX0_swap_10 ff_X0_55_68 (Nat.le_of_ble_eq_true rfl) (Nat.le_of_ble_eq_true rfl) rfl (cLi (pc := 13) h dX0_swap_13 rfl (kCi (pc := 14) h (kd_X0_114 h dX0_swap_14) spX4_take (by decide) (by decide) (by decide) (by decide) (cSI (pc := 17) h dX0_swap_17 (cLa (pc := 19) h dX0_swap_19 rfl (gGf (pc := 20) h dX0_swap_20 ff_X0_55_68 (Nat.le_of_ble_eq_true rfl) (Nat.le_of_ble_eq_true rfl) rfl (cLi (pc := 23) h dX0_swap_23 rfl (cLI (pc := 24) h dX0_swap_24 (kCv (pc := 26) h (kd_X0_101 h dX0_swap_26) spX4_put (by decide) (by decide) (by decide) (by decide) (cLa (pc := 29) h dX0_swap_29 rfl (gGf (pc := 30) h dX0_swap_30 ff_X0_55_68 (Nat.le_of_ble_eq_true rfl) (Nat.le_of_ble_eq_true rfl) rfl (cLi (pc := 33) h dX0_swap_33 rfl (cLi (pc := 34) h dX0_swap_34 rfl (kCv (pc := 35) h (kd_X0_101 h dX0_swap_35) spX4_put (by decide) (by decide) (by decide) (by decide) (zV (pc := 38) h hm (Nat.le_refl _) dX0_swap_38))))))))))))))))))))
set_option maxRecDepth 20000 in
theorem lX0_swap_0 (a1 : Int32) (a2 : Int32) (m : qM) : tX0_swap_0 [some (.ref 68), some (.int a1), some (.int a2), none, none] [] m = fX0_swap_0 a1 a2 m := rfl
noncomputable def GX0_swap : qG Unit := fun av m => match av with
  | [.ref 68, .int a1, .int a2] => fX0_swap a1 a2 m
  | _ => none
theorem spX0_swap : qSpV yX0_swap (.code yX0_swap cX0_swap 5 none) 4 qfin 155 155 1 GX0_swap := by
  intro av m m' hG
  unfold GX0_swap at hG
  split at hG
  · rename_i a1 a2
    rw [fX0_swap_d] at hG
    exact ⟨qmeet (J := jV) (r := ((), m')) (av := [.ref 68, .int a1, .int a2]) (by decide +kernel) (Nat.le_of_ble_eq_true rfl) (fun C w h hm hx hn => sX0_swap_0 h hm hx) ((lX0_swap_0 _ _ _).trans hG) (Nat.le_of_ble_eq_true rfl), Or.inl ⟨68, _, 0, _, _, rfl, by decide, rfl, qCk_0, rfl⟩⟩
  · cases hG
theorem im_X0_seekPuts : Jvm.Cond.instanceMethod yX0_seekPuts ∈ qTw := qm4 (List.mem_of_getElem? (i := 232) (by decide +kernel)) (by decide +kernel)
theorem se_X0_seekPuts : Jvm.Cond.selects yX0_seekPuts.cls yX0_seekPuts yX0_seekPuts ∈ qTw := List.mem_filter.mpr ⟨List.mem_append_left _ (List.mem_of_getElem? (i := 14) (by decide +kernel)), rfl⟩
theorem co_X0_seekPuts : Jvm.Cond.code yX0_seekPuts cX0_seekPuts 5 none ∈ qTw := qm4 (List.mem_of_getElem? (i := 233) (by decide +kernel)) (by decide +kernel)
theorem yk_X0_seekPuts : qYk yX0_seekPuts 1 := ⟨⟨by decide +kernel, by decide +kernel⟩, by decide +kernel⟩
theorem ml_X0_150 : Jvm.Cond.methodLink RX0 150 yX0_seekPuts ∈ qTw := qm4 (List.mem_of_getElem? (i := 230) (by decide +kernel)) (by decide +kernel)
theorem kd_X0_150 {C : qCx} {w : qWp} {cc : ByteArray} {nL dp n0 n1 pc : Nat} (h : qOk C w RX0 cc nL dp n0 n1) (d : decode cc pc = .ok (.invokevirtual 150, 3)) : qCallOk C w nL dp n0 n1 pc 2 1 yX0_seekPuts (.code yX0_seekPuts cX0_seekPuts 5 none) := kindV h d ml_X0_150 im_X0_seekPuts se_X0_seekPuts in_ParentEve_Chooser co_X0_seekPuts yk_X0_seekPuts (by decide)
theorem im_X0_seekSwaps : Jvm.Cond.instanceMethod yX0_seekSwaps ∈ qTw := qm5 (List.mem_of_getElem? (i := 4) (by decide +kernel)) (by decide +kernel)
theorem se_X0_seekSwaps : Jvm.Cond.selects yX0_seekSwaps.cls yX0_seekSwaps yX0_seekSwaps ∈ qTw := List.mem_filter.mpr ⟨List.mem_append_left _ (List.mem_of_getElem? (i := 17) (by decide +kernel)), rfl⟩
theorem co_X0_seekSwaps : Jvm.Cond.code yX0_seekSwaps cX0_seekSwaps 5 none ∈ qTw := qm5 (List.mem_of_getElem? (i := 5) (by decide +kernel)) (by decide +kernel)
theorem yk_X0_seekSwaps : qYk yX0_seekSwaps 0 := ⟨⟨by decide +kernel, by decide +kernel⟩, by decide +kernel⟩
theorem ml_X0_153 : Jvm.Cond.methodLink RX0 153 yX0_seekSwaps ∈ qTw := qm5 (List.mem_of_getElem? (i := 2) (by decide +kernel)) (by decide +kernel)
theorem kd_X0_153 {C : qCx} {w : qWp} {cc : ByteArray} {nL dp n0 n1 pc : Nat} (h : qOk C w RX0 cc nL dp n0 n1) (d : decode cc pc = .ok (.invokevirtual 153, 3)) : qCallOk C w nL dp n0 n1 pc 1 1 yX0_seekSwaps (.code yX0_seekSwaps cX0_seekSwaps 5 none) := kindV h d ml_X0_153 im_X0_seekSwaps se_X0_seekSwaps in_ParentEve_Chooser co_X0_seekSwaps yk_X0_seekSwaps (by decide)
theorem im_X0_swap : Jvm.Cond.instanceMethod yX0_swap ∈ qTw := qm5 (List.mem_of_getElem? (i := 16) (by decide +kernel)) (by decide +kernel)
theorem se_X0_swap : Jvm.Cond.selects yX0_swap.cls yX0_swap yX0_swap ∈ qTw := List.mem_filter.mpr ⟨List.mem_append_left _ (List.mem_of_getElem? (i := 19) (by decide +kernel)), rfl⟩
theorem co_X0_swap : Jvm.Cond.code yX0_swap cX0_swap 5 none ∈ qTw := qm5 (List.mem_of_getElem? (i := 17) (by decide +kernel)) (by decide +kernel)
theorem yk_X0_swap : qYk yX0_swap 2 := ⟨⟨by decide +kernel, by decide +kernel⟩, by decide +kernel⟩
theorem ml_X0_156 : Jvm.Cond.methodLink RX0 156 yX0_swap ∈ qTw := qm5 (List.mem_of_getElem? (i := 14) (by decide +kernel)) (by decide +kernel)
theorem kd_X0_156 {C : qCx} {w : qWp} {cc : ByteArray} {nL dp n0 n1 pc : Nat} (h : qOk C w RX0 cc nL dp n0 n1) (d : decode cc pc = .ok (.invokevirtual 156, 3)) : qCallOk C w nL dp n0 n1 pc 3 1 yX0_swap (.code yX0_swap cX0_swap 5 none) := kindV h d ml_X0_156 im_X0_swap se_X0_swap in_ParentEve_Chooser co_X0_swap yk_X0_swap (by decide)
theorem dX0_changeOnce_0 : decode cX0_changeOnce 0 = .ok (.aload_n 0, 1) := by decide +kernel
theorem dX0_changeOnce_1 : decode cX0_changeOnce 1 = .ok (.lconst 0, 1) := by decide +kernel
theorem dX0_changeOnce_2 : decode cX0_changeOnce 2 = .ok (.putfield 48, 3) := by decide +kernel
theorem dX0_changeOnce_5 : decode cX0_changeOnce 5 = .ok (.aload_n 0, 1) := by decide +kernel
theorem dX0_changeOnce_6 : decode cX0_changeOnce 6 = .ok (.iconst 0, 1) := by decide +kernel
theorem dX0_changeOnce_7 : decode cX0_changeOnce 7 = .ok (.invokevirtual 150, 3) := by decide +kernel
theorem dX0_changeOnce_10 : decode cX0_changeOnce 10 = .ok (.aload_n 0, 1) := by decide +kernel
theorem dX0_changeOnce_11 : decode cX0_changeOnce 11 = .ok (.iconst 1, 1) := by decide +kernel
theorem dX0_changeOnce_12 : decode cX0_changeOnce 12 = .ok (.invokevirtual 150, 3) := by decide +kernel
theorem dX0_changeOnce_15 : decode cX0_changeOnce 15 = .ok (.aload_n 0, 1) := by decide +kernel
theorem dX0_changeOnce_16 : decode cX0_changeOnce 16 = .ok (.invokevirtual 153, 3) := by decide +kernel
theorem dX0_changeOnce_19 : decode cX0_changeOnce 19 = .ok (.aload_n 0, 1) := by decide +kernel
theorem dX0_changeOnce_20 : decode cX0_changeOnce 20 = .ok (.getfield 48, 3) := by decide +kernel
theorem dX0_changeOnce_23 : decode cX0_changeOnce 23 = .ok (.lconst 0, 1) := by decide +kernel
theorem dX0_changeOnce_24 : decode cX0_changeOnce 24 = .ok (.lcmp, 1) := by decide +kernel
theorem dX0_changeOnce_25 : decode cX0_changeOnce 25 = .ok (.ifCond .ne 5, 3) := by decide +kernel
theorem dX0_changeOnce_28 : decode cX0_changeOnce 28 = .ok (.iconst 0, 1) := by decide +kernel
theorem dX0_changeOnce_29 : decode cX0_changeOnce 29 = .ok (.ireturn, 1) := by decide +kernel
theorem dX0_changeOnce_30 : decode cX0_changeOnce 30 = .ok (.aload_n 0, 1) := by decide +kernel
theorem dX0_changeOnce_31 : decode cX0_changeOnce 31 = .ok (.getfield 42, 3) := by decide +kernel
theorem dX0_changeOnce_34 : decode cX0_changeOnce 34 = .ok (.iconst (-1), 1) := by decide +kernel
theorem dX0_changeOnce_35 : decode cX0_changeOnce 35 = .ok (.if_icmp .eq 17, 3) := by decide +kernel
theorem dX0_changeOnce_38 : decode cX0_changeOnce 38 = .ok (.aload_n 0, 1) := by decide +kernel
theorem dX0_changeOnce_39 : decode cX0_changeOnce 39 = .ok (.aload_n 0, 1) := by decide +kernel
theorem dX0_changeOnce_40 : decode cX0_changeOnce 40 = .ok (.getfield 39, 3) := by decide +kernel
theorem dX0_changeOnce_43 : decode cX0_changeOnce 43 = .ok (.aload_n 0, 1) := by decide +kernel
theorem dX0_changeOnce_44 : decode cX0_changeOnce 44 = .ok (.getfield 42, 3) := by decide +kernel
theorem dX0_changeOnce_47 : decode cX0_changeOnce 47 = .ok (.invokevirtual 156, 3) := by decide +kernel
theorem dX0_changeOnce_50 : decode cX0_changeOnce 50 = .ok (.iconst 1, 1) := by decide +kernel
theorem dX0_changeOnce_51 : decode cX0_changeOnce 51 = .ok (.ireturn, 1) := by decide +kernel
theorem dX0_changeOnce_52 : decode cX0_changeOnce 52 = .ok (.aload_n 0, 1) := by decide +kernel
theorem dX0_changeOnce_53 : decode cX0_changeOnce 53 = .ok (.getfield 55, 3) := by decide +kernel
theorem dX0_changeOnce_56 : decode cX0_changeOnce 56 = .ok (.aload_n 0, 1) := by decide +kernel
theorem dX0_changeOnce_57 : decode cX0_changeOnce 57 = .ok (.getfield 39, 3) := by decide +kernel
theorem dX0_changeOnce_60 : decode cX0_changeOnce 60 = .ok (.invokevirtual 85, 3) := by decide +kernel
theorem dX0_changeOnce_63 : decode cX0_changeOnce 63 = .ok (.ifCond .eq 15, 3) := by decide +kernel
theorem dX0_changeOnce_66 : decode cX0_changeOnce 66 = .ok (.aload_n 0, 1) := by decide +kernel
theorem dX0_changeOnce_67 : decode cX0_changeOnce 67 = .ok (.getfield 55, 3) := by decide +kernel
theorem dX0_changeOnce_70 : decode cX0_changeOnce 70 = .ok (.aload_n 0, 1) := by decide +kernel
theorem dX0_changeOnce_71 : decode cX0_changeOnce 71 = .ok (.getfield 39, 3) := by decide +kernel
theorem dX0_changeOnce_74 : decode cX0_changeOnce 74 = .ok (.invokevirtual 114, 3) := by decide +kernel
theorem dX0_changeOnce_77 : decode cX0_changeOnce 77 = .ok (.pop, 1) := by decide +kernel
theorem dX0_changeOnce_78 : decode cX0_changeOnce 78 = .ok (.aload_n 0, 1) := by decide +kernel
theorem dX0_changeOnce_79 : decode cX0_changeOnce 79 = .ok (.getfield 55, 3) := by decide +kernel
theorem dX0_changeOnce_82 : decode cX0_changeOnce 82 = .ok (.aload_n 0, 1) := by decide +kernel
theorem dX0_changeOnce_83 : decode cX0_changeOnce 83 = .ok (.getfield 39, 3) := by decide +kernel
theorem dX0_changeOnce_86 : decode cX0_changeOnce 86 = .ok (.aload_n 0, 1) := by decide +kernel
theorem dX0_changeOnce_87 : decode cX0_changeOnce 87 = .ok (.getfield 45, 3) := by decide +kernel
theorem dX0_changeOnce_90 : decode cX0_changeOnce 90 = .ok (.invokevirtual 101, 3) := by decide +kernel
theorem dX0_changeOnce_93 : decode cX0_changeOnce 93 = .ok (.iconst 1, 1) := by decide +kernel
theorem dX0_changeOnce_94 : decode cX0_changeOnce 94 = .ok (.ireturn, 1) := by decide +kernel
noncomputable def tX0_changeOnce_42 : qT (Int32 × qM) :=
  oLa 0 (oGf 68 1 58 (oLa 0 (oGi 68 10 (oLa 0 (oGi 68 12 (oCv GX4_put 3 (oC (.int (1 : Int32)) (eZ))))))))
noncomputable def wX0_changeOnce_42 (k : qM → Option (Int32 × qM)) : qT (Int32 × qM) := fun lo st m => match lo, st with
  | [some (.ref 68)], [] => k m
  | _, _ => none
set_option maxRecDepth 20000 in
theorem sX0_changeOnce_42 {C : qCx} {w : qWp} (h : qOk C w RX0 cX0_changeOnce 1 6 155 155) (hm : qMt C (some .boolean)) (hx : qNx C) : qSnd C w 1 155 (qQf C w 155 155 jI) qfin 155 78 (tX0_changeOnce_42) :=
  cLa (pc := 78) h dX0_changeOnce_78 rfl (gGf (pc := 79) h dX0_changeOnce_79 ff_X0_55_68 (Nat.le_of_ble_eq_true rfl) (Nat.le_of_ble_eq_true rfl) rfl (cLa (pc := 82) h dX0_changeOnce_82 rfl (gGi (pc := 83) h dX0_changeOnce_83 ff_X0_39_68 (Nat.le_of_ble_eq_true rfl) (Nat.le_of_ble_eq_true rfl) (cLa (pc := 86) h dX0_changeOnce_86 rfl (gGi (pc := 87) h dX0_changeOnce_87 ff_X0_45_68 (Nat.le_of_ble_eq_true rfl) (Nat.le_of_ble_eq_true rfl) (kCv (pc := 90) h (kd_X0_101 h dX0_changeOnce_90) spX4_put (by decide) (by decide) (by decide) (by decide) (cC (pc := 93) h dX0_changeOnce_93 rfl (zZ (pc := 94) h hm (Nat.le_refl _) dX0_changeOnce_94))))))))
set_option maxRecDepth 20000 in
theorem lX0_changeOnce_42 (m : qM) : tX0_changeOnce_42 [some (.ref 68)] [] m = fX0_changeOnce_42 m := rfl
theorem bX0_changeOnce_42 {C : qCx} {w : qWp} (h : qOk C w RX0 cX0_changeOnce 1 6 155 155) (hm : qMt C (some .boolean)) (hx : qNx C) : qSnd C w 1 155 (qQf C w 155 155 jI) qfin 155 78 (wX0_changeOnce_42 fX0_changeOnce_42) :=
  qSnd_of (fun lo st m x hr0 => by
    unfold wX0_changeOnce_42 at hr0
    split at hr0
    · exact ⟨_, (qsub_e qsub_nil), (lX0_changeOnce_42 _).trans hr0⟩
    · cases hr0) (sX0_changeOnce_42 h hm hx)
noncomputable def tX0_changeOnce_0 (j42 : qT (Int32 × qM)) : qT (Int32 × qM) :=
  oLa 0 (oC (.long (0 : Int64)) (oPl 68 13 (oLa 0 (oC (.int (0 : Int32)) (oCv GX0_seekPuts 2 (oLa 0 (oC (.int (1 : Int32)) (oCv GX0_seekPuts 2 (oLa 0 (oCv GX0_seekSwaps 1 (oLa 0 (oGl 68 13 (oC (.long (0 : Int64)) (oLcmp (oEq (oC (.int (0 : Int32)) (eZ)) (oLa 0 (oGi 68 11 (oC (.int (-1 : Int32)) (oCEq (oLa 0 (oGf 68 1 58 (oLa 0 (oGi 68 10 (oCi GX4_isLaid 2 (oEq (j42) (oLa 0 (oGf 68 1 58 (oLa 0 (oGi 68 10 (oCi GX4_take 2 (oPop (j42))))))))))))) (oLa 0 (oLa 0 (oGi 68 10 (oLa 0 (oGi 68 11 (oCv GX0_swap 3 (oC (.int (1 : Int32)) (eZ)))))))))))))))))))))))))))
set_option maxRecDepth 20000 in
theorem sX0_changeOnce_0 {C : qCx} {w : qWp} (h : qOk C w RX0 cX0_changeOnce 1 6 155 155) (hm : qMt C (some .boolean)) (hx : qNx C) {j42 : qT (Int32 × qM)} (k42 : qSnd C w 1 155 (qQf C w 155 155 jI) qfin 155 78 j42) : qSnd C w 1 155 (qQf C w 155 155 jI) qfin 155 0 (tX0_changeOnce_0 j42) :=
  cLa (pc := 0) h dX0_changeOnce_0 rfl (cJ (pc := 1) h dX0_changeOnce_1 rfl (gPl (pc := 2) h dX0_changeOnce_2 ff_X0_48_68 (Or.inl rfl) (Nat.le_of_ble_eq_true rfl) (Nat.le_of_ble_eq_true rfl) (cLa (pc := 5) h dX0_changeOnce_5 rfl (cC (pc := 6) h dX0_changeOnce_6 rfl (kCv (pc := 7) h (kd_X0_150 h dX0_changeOnce_7) spX0_seekPuts (by decide) (by decide) (by decide) (by decide) (cLa (pc := 10) h dX0_changeOnce_10 rfl (cC (pc := 11) h dX0_changeOnce_11 rfl (kCv (pc := 12) h (kd_X0_150 h dX0_changeOnce_12) spX0_seekPuts (by decide) (by decide) (by decide) (by decide) (cLa (pc := 15) h dX0_changeOnce_15 rfl (kCv (pc := 16) h (kd_X0_153 h dX0_changeOnce_16) spX0_seekSwaps (by decide) (by decide) (by decide) (by decide) (cLa (pc := 19) h dX0_changeOnce_19 rfl (gGl (pc := 20) h dX0_changeOnce_20 ff_X0_48_68 (Nat.le_of_ble_eq_true rfl) (Nat.le_of_ble_eq_true rfl) (cJ (pc := 23) h dX0_changeOnce_23 rfl (aLcmp (pc := 24) h dX0_changeOnce_24 (jNe (pc := 25) h dX0_changeOnce_25 rfl (cLa (pc := 30) h dX0_changeOnce_30 rfl (gGi (pc := 31) h dX0_changeOnce_31 ff_X0_42_68 (Nat.le_of_ble_eq_true rfl) (Nat.le_of_ble_eq_true rfl) (cC (pc := 34) h dX0_changeOnce_34 rfl (jCEq (pc := 35) h dX0_changeOnce_35 rfl (cLa (pc := 52) h dX0_changeOnce_52 rfl (gGf (pc := 53) h dX0_changeOnce_53 ff_X0_55_68 (Nat.le_of_ble_eq_true rfl) (Nat.le_of_ble_eq_true rfl) rfl (cLa (pc := 56) h dX0_changeOnce_56 rfl (gGi (pc := 57) h dX0_changeOnce_57 ff_X0_39_68 (Nat.le_of_ble_eq_true rfl) (Nat.le_of_ble_eq_true rfl) (kCi (pc := 60) h (kd_X0_85 h dX0_changeOnce_60) spX4_isLaid (by decide) (by decide) (by decide) (by decide) (jEq (pc := 63) h dX0_changeOnce_63 rfl (k42) (cLa (pc := 66) h dX0_changeOnce_66 rfl (gGf (pc := 67) h dX0_changeOnce_67 ff_X0_55_68 (Nat.le_of_ble_eq_true rfl) (Nat.le_of_ble_eq_true rfl) rfl (cLa (pc := 70) h dX0_changeOnce_70 rfl (gGi (pc := 71) h dX0_changeOnce_71 ff_X0_39_68 (Nat.le_of_ble_eq_true rfl) (Nat.le_of_ble_eq_true rfl) (kCi (pc := 74) h (kd_X0_114 h dX0_changeOnce_74) spX4_take (by decide) (by decide) (by decide) (by decide) (aPop (pc := 77) h dX0_changeOnce_77 (k42))))))))))))) (cLa (pc := 38) h dX0_changeOnce_38 rfl (cLa (pc := 39) h dX0_changeOnce_39 rfl (gGi (pc := 40) h dX0_changeOnce_40 ff_X0_39_68 (Nat.le_of_ble_eq_true rfl) (Nat.le_of_ble_eq_true rfl) (cLa (pc := 43) h dX0_changeOnce_43 rfl (gGi (pc := 44) h dX0_changeOnce_44 ff_X0_42_68 (Nat.le_of_ble_eq_true rfl) (Nat.le_of_ble_eq_true rfl) (kCv (pc := 47) h (kd_X0_156 h dX0_changeOnce_47) spX0_swap (by decide) (by decide) (by decide) (by decide) (cC (pc := 50) h dX0_changeOnce_50 rfl (zZ (pc := 51) h hm (Nat.le_refl _) dX0_changeOnce_51)))))))))))) (cC (pc := 28) h dX0_changeOnce_28 rfl (zZ (pc := 29) h hm (Nat.le_refl _) dX0_changeOnce_29)))))))))))))))))
set_option maxRecDepth 20000 in
theorem lX0_changeOnce_0 (m : qM) : tX0_changeOnce_0 (wX0_changeOnce_42 fX0_changeOnce_42) [some (.ref 68)] [] m = fX0_changeOnce_0 m := rfl
noncomputable def GX0_changeOnce : qG Int32 := fun av m => match av with
  | [.ref 68] => fX0_changeOnce m
  | _ => none
theorem spX0_changeOnce : qSpI yX0_changeOnce (.code yX0_changeOnce cX0_changeOnce 1 (some .boolean)) 6 qfin 155 155 1 GX0_changeOnce := by
  intro av m x m' hG
  unfold GX0_changeOnce at hG
  split at hG
  · rw [fX0_changeOnce_d] at hG
    exact ⟨qmeet (J := jI) (r := (x, m')) (av := [.ref 68]) (by decide +kernel) (Nat.le_of_ble_eq_true rfl) (fun C w h hm hx hn => sX0_changeOnce_0 h hm hx (bX0_changeOnce_42 h hm hx)) ((lX0_changeOnce_0 _).trans hG) (Nat.le_of_ble_eq_true rfl), Or.inl ⟨68, _, 0, _, _, rfl, by decide, rfl, qCk_0, rfl⟩⟩
  · cases hG
theorem dX1_forget_0 : decode cX1_forget 0 = .ok (.iconst 0, 1) := by decide +kernel
theorem dX1_forget_1 : decode cX1_forget 1 = .ok (.istore_n 1, 1) := by decide +kernel
theorem dX1_forget_2 : decode cX1_forget 2 = .ok (.iload_n 1, 1) := by decide +kernel
theorem dX1_forget_3 : decode cX1_forget 3 = .ok (.bipush 81, 2) := by decide +kernel
theorem dX1_forget_5 : decode cX1_forget 5 = .ok (.if_icmp .ge 16, 3) := by decide +kernel
theorem dX1_forget_8 : decode cX1_forget 8 = .ok (.aload_n 0, 1) := by decide +kernel
theorem dX1_forget_9 : decode cX1_forget 9 = .ok (.getfield 18, 3) := by decide +kernel
theorem dX1_forget_12 : decode cX1_forget 12 = .ok (.iload_n 1, 1) := by decide +kernel
theorem dX1_forget_13 : decode cX1_forget 13 = .ok (.iconst 0, 1) := by decide +kernel
theorem dX1_forget_14 : decode cX1_forget 14 = .ok (.bastore, 1) := by decide +kernel
theorem dX1_forget_15 : decode cX1_forget 15 = .ok (.iinc 1 1, 3) := by decide +kernel
theorem dX1_forget_18 : decode cX1_forget 18 = .ok (.goto (-16), 3) := by decide +kernel
theorem dX1_forget_21 : decode cX1_forget 21 = .ok (.return_, 1) := by decide +kernel
noncomputable def tX1_forget_2 (j2 : qT (Unit × qM)) : qT (Unit × qM) :=
  oLi 1 (oC (.int (81 : Int32)) (oCGe (eV) (oLa 0 (oGf 80 7 83 (oLi 1 (oC (.int (0 : Int32)) (oWz 83 81 (oInc 1 (1 : Int32) (j2)))))))))
noncomputable def wX1_forget_2 (k : Int32 → qM → Option (Unit × qM)) : qT (Unit × qM) := fun lo st m => match lo, st with
  | [some (.ref 80), some (.int a1)], [] => k a1 m
  | _, _ => none
set_option maxRecDepth 20000 in
theorem sX1_forget_2 {C : qCx} {w : qWp} (h : qOk C w RX1 cX1_forget 2 0 155 155) (hm : qMt C none) (hx : qNx C) {j2 : qT (Unit × qM)} (k2 : qSnd C w 2 155 (qQf C w 155 155 jV) qfin 155 2 j2) : qSnd C w 2 155 (qQf C w 155 155 jV) qfin 155 2 (tX1_forget_2 j2) :=
  cLi (pc := 2) h dX1_forget_2 rfl (cB (pc := 3) h dX1_forget_3 rfl (jCGe (pc := 5) h dX1_forget_5 rfl (zV (pc := 21) h hm (Nat.le_refl _) dX1_forget_21) (cLa (pc := 8) h dX1_forget_8 rfl (gGf (pc := 9) h dX1_forget_9 ff_X1_18_80 (Nat.le_of_ble_eq_true rfl) (Nat.le_of_ble_eq_true rfl) rfl (cLi (pc := 12) h dX1_forget_12 rfl (cC (pc := 13) h dX1_forget_13 rfl (rWz (pc := 14) h dX1_forget_14 rfl (Nat.le_of_ble_eq_true rfl) (Nat.le_of_ble_eq_true rfl) (cInc (pc := 15) h dX1_forget_15 rfl (jGo (pc := 18) h dX1_forget_18 rfl (k2))))))))))
set_option maxRecDepth 20000 in
theorem lX1_forget_2 (n : Nat) (a1 : Int32) (m : qM) : tX1_forget_2 (wX1_forget_2 ((fX1_forget_2 n))) [some (.ref 80), some (.int a1)] [] m = fX1_forget_2 (n + 1) a1 m := rfl
theorem bX1_forget_2 {C : qCx} {w : qWp} (h : qOk C w RX1 cX1_forget 2 0 155 155) (hm : qMt C none) (hx : qNx C) : ∀ n : Nat, qSnd C w 2 155 (qQf C w 155 155 jV) qfin 155 2 (wX1_forget_2 (fX1_forget_2 n))
  | 0 => qSnd_of0 (fun lo st m x hr0 => by
    unfold wX1_forget_2 at hr0
    split at hr0
    · cases hr0
    · cases hr0)
  | n + 1 => by
    have ih := bX1_forget_2 h hm hx n
    exact qSnd_of (fun lo st m x hr0 => by
    unfold wX1_forget_2 at hr0
    split at hr0
    · exact ⟨_, (qsub_e (qsub_e qsub_nil)), (lX1_forget_2 n _ _).trans hr0⟩
    · cases hr0) (sX1_forget_2 h hm hx ih)
noncomputable def tX1_forget_0 (j2 : qT (Unit × qM)) : qT (Unit × qM) :=
  oC (.int (0 : Int32)) (oSi 1 (j2))
set_option maxRecDepth 20000 in
theorem sX1_forget_0 {C : qCx} {w : qWp} (h : qOk C w RX1 cX1_forget 2 0 155 155) (hm : qMt C none) (hx : qNx C) {j2 : qT (Unit × qM)} (k2 : qSnd C w 2 155 (qQf C w 155 155 jV) qfin 155 2 j2) : qSnd C w 2 155 (qQf C w 155 155 jV) qfin 155 0 (tX1_forget_0 j2) :=
  cC (pc := 0) h dX1_forget_0 rfl (cSi (pc := 1) h dX1_forget_1 rfl (k2))
set_option maxRecDepth 20000 in
theorem lX1_forget_0 (m : qM) : tX1_forget_0 (wX1_forget_2 (fX1_forget_2 FU)) [some (.ref 80), none] [] m = fX1_forget_0 m := rfl
noncomputable def GX1_forget : qG Unit := fun av m => match av with
  | [.ref 80] => fX1_forget m
  | _ => none
theorem spX1_forget : qSpV yX1_forget (.code yX1_forget cX1_forget 2 none) 0 qfin 155 155 1 GX1_forget := by
  intro av m m' hG
  unfold GX1_forget at hG
  split at hG
  · rw [fX1_forget_d] at hG
    exact ⟨qmeet (J := jV) (r := ((), m')) (av := [.ref 80]) (by decide +kernel) (Nat.le_of_ble_eq_true rfl) (fun C w h hm hx hn => sX1_forget_0 h hm hx (bX1_forget_2 h hm hx FU)) ((lX1_forget_0 _).trans hG) (Nat.le_of_ble_eq_true rfl), Or.inl ⟨80, _, 1, _, _, rfl, by decide, rfl, qCk_1, rfl⟩⟩
  · cases hG
theorem dX4_laidOfTeacher_0 : decode cX4_laidOfTeacher 0 = .ok (.aload_n 0, 1) := by decide +kernel
theorem dX4_laidOfTeacher_1 : decode cX4_laidOfTeacher 1 = .ok (.getfield 34, 3) := by decide +kernel
theorem dX4_laidOfTeacher_4 : decode cX4_laidOfTeacher 4 = .ok (.iload_n 1, 1) := by decide +kernel
theorem dX4_laidOfTeacher_5 : decode cX4_laidOfTeacher 5 = .ok (.iaload, 1) := by decide +kernel
theorem dX4_laidOfTeacher_6 : decode cX4_laidOfTeacher 6 = .ok (.ireturn, 1) := by decide +kernel
noncomputable def tX4_laidOfTeacher_0 : qT (Int32 × qM) :=
  oLa 0 (oGf 58 9 66 (oLi 1 (oAi 66 10 (eI))))
set_option maxRecDepth 20000 in
theorem sX4_laidOfTeacher_0 {C : qCx} {w : qWp} (h : qOk C w RX4 cX4_laidOfTeacher 2 0 155 155) (hm : qMt C (some .int)) (hx : qNx C) : qSnd C w 2 155 (qQf C w 155 155 jI) qfin 155 0 (tX4_laidOfTeacher_0) :=
  cLa (pc := 0) h dX4_laidOfTeacher_0 rfl (gGf (pc := 1) h dX4_laidOfTeacher_1 ff_X4_34_58 (Nat.le_of_ble_eq_true rfl) (Nat.le_of_ble_eq_true rfl) rfl (cLi (pc := 4) h dX4_laidOfTeacher_4 rfl (rAi (pc := 5) h dX4_laidOfTeacher_5 rfl (Nat.le_of_ble_eq_true rfl) (Nat.le_of_ble_eq_true rfl) (zI (pc := 6) h hm (Nat.le_refl _) dX4_laidOfTeacher_6))))
set_option maxRecDepth 20000 in
theorem lX4_laidOfTeacher_0 (a1 : Int32) (m : qM) : tX4_laidOfTeacher_0 [some (.ref 58), some (.int a1)] [] m = fX4_laidOfTeacher_0 a1 m := rfl
noncomputable def GX4_laidOfTeacher : qG Int32 := fun av m => match av with
  | [.ref 58, .int a1] => fX4_laidOfTeacher a1 m
  | _ => none
theorem spX4_laidOfTeacher : qSpI yX4_laidOfTeacher (.code yX4_laidOfTeacher cX4_laidOfTeacher 2 (some .int)) 0 qfin 155 155 1 GX4_laidOfTeacher := by
  intro av m x m' hG
  unfold GX4_laidOfTeacher at hG
  split at hG
  · rename_i a1
    rw [fX4_laidOfTeacher_d] at hG
    exact ⟨qmeet (J := jI) (r := (x, m')) (av := [.ref 58, .int a1]) (by decide +kernel) (Nat.le_of_ble_eq_true rfl) (fun C w h hm hx hn => sX4_laidOfTeacher_0 h hm hx) ((lX4_laidOfTeacher_0 _ _).trans hG) (Nat.le_of_ble_eq_true rfl), Or.inl ⟨58, _, 4, _, _, rfl, by decide, rfl, qCk_4, rfl⟩⟩
  · cases hG
theorem dX7_slotMinutes_0 : decode cX7_slotMinutes 0 = .ok (.aload_n 0, 1) := by decide +kernel
theorem dX7_slotMinutes_1 : decode cX7_slotMinutes 1 = .ok (.getfield 9, 3) := by decide +kernel
theorem dX7_slotMinutes_4 : decode cX7_slotMinutes 4 = .ok (.iconst 0, 1) := by decide +kernel
theorem dX7_slotMinutes_5 : decode cX7_slotMinutes 5 = .ok (.iaload, 1) := by decide +kernel
theorem dX7_slotMinutes_6 : decode cX7_slotMinutes 6 = .ok (.ifCond .le 12, 3) := by decide +kernel
theorem dX7_slotMinutes_9 : decode cX7_slotMinutes 9 = .ok (.aload_n 0, 1) := by decide +kernel
theorem dX7_slotMinutes_10 : decode cX7_slotMinutes 10 = .ok (.getfield 9, 3) := by decide +kernel
theorem dX7_slotMinutes_13 : decode cX7_slotMinutes 13 = .ok (.iconst 0, 1) := by decide +kernel
theorem dX7_slotMinutes_14 : decode cX7_slotMinutes 14 = .ok (.iaload, 1) := by decide +kernel
theorem dX7_slotMinutes_15 : decode cX7_slotMinutes 15 = .ok (.goto 4, 3) := by decide +kernel
theorem dX7_slotMinutes_18 : decode cX7_slotMinutes 18 = .ok (.iconst 1, 1) := by decide +kernel
theorem dX7_slotMinutes_19 : decode cX7_slotMinutes 19 = .ok (.ireturn, 1) := by decide +kernel
noncomputable def tX7_slotMinutes_11 : qT (Int32 × qM) :=
  eI
noncomputable def wX7_slotMinutes_11 (k : Int32 → qM → Option (Int32 × qM)) : qT (Int32 × qM) := fun lo st m => match lo, st with
  | [_], [.int s0] => k s0 m
  | _, _ => none
set_option maxRecDepth 20000 in
theorem sX7_slotMinutes_11 {C : qCx} {w : qWp} (h : qOk C w RX7 cX7_slotMinutes 1 0 155 155) (hm : qMt C (some .int)) (hx : qNx C) : qSnd C w 1 155 (qQf C w 155 155 jI) qfin 155 19 (tX7_slotMinutes_11) :=
  zI (pc := 19) h hm (Nat.le_refl _) dX7_slotMinutes_19
set_option maxRecDepth 20000 in
theorem lX7_slotMinutes_11 (s0 : Int32) (m : qM) : tX7_slotMinutes_11 [none] [(.int s0)] m = fX7_slotMinutes_11 s0 m := rfl
theorem bX7_slotMinutes_11 {C : qCx} {w : qWp} (h : qOk C w RX7 cX7_slotMinutes 1 0 155 155) (hm : qMt C (some .int)) (hx : qNx C) : qSnd C w 1 155 (qQf C w 155 155 jI) qfin 155 19 (wX7_slotMinutes_11 fX7_slotMinutes_11) :=
  qSnd_of (fun lo st m x hr0 => by
    unfold wX7_slotMinutes_11 at hr0
    split at hr0
    · exact ⟨_, (qsub_n qsub_nil), (lX7_slotMinutes_11 _ _).trans hr0⟩
    · cases hr0) (sX7_slotMinutes_11 h hm hx)
noncomputable def tX7_slotMinutes_0 (j11 : qT (Int32 × qM)) : qT (Int32 × qM) :=
  oLa 0 (oGf 4 0 5 (oC (.int (0 : Int32)) (oAi 5 6 (oLe (oC (.int (1 : Int32)) (j11)) (oLa 0 (oGf 4 0 5 (oC (.int (0 : Int32)) (oAi 5 6 (j11)))))))))
set_option maxRecDepth 20000 in
theorem sX7_slotMinutes_0 {C : qCx} {w : qWp} (h : qOk C w RX7 cX7_slotMinutes 1 0 155 155) (hm : qMt C (some .int)) (hx : qNx C) {j11 : qT (Int32 × qM)} (k11 : qSnd C w 1 155 (qQf C w 155 155 jI) qfin 155 19 j11) : qSnd C w 1 155 (qQf C w 155 155 jI) qfin 155 0 (tX7_slotMinutes_0 j11) :=
  cLa (pc := 0) h dX7_slotMinutes_0 rfl (gGf (pc := 1) h dX7_slotMinutes_1 ff_X7_9_4 (Nat.le_of_ble_eq_true rfl) (Nat.le_of_ble_eq_true rfl) rfl (cC (pc := 4) h dX7_slotMinutes_4 rfl (rAi (pc := 5) h dX7_slotMinutes_5 rfl (Nat.le_of_ble_eq_true rfl) (Nat.le_of_ble_eq_true rfl) (jLe (pc := 6) h dX7_slotMinutes_6 rfl (cC (pc := 18) h dX7_slotMinutes_18 rfl (k11)) (cLa (pc := 9) h dX7_slotMinutes_9 rfl (gGf (pc := 10) h dX7_slotMinutes_10 ff_X7_9_4 (Nat.le_of_ble_eq_true rfl) (Nat.le_of_ble_eq_true rfl) rfl (cC (pc := 13) h dX7_slotMinutes_13 rfl (rAi (pc := 14) h dX7_slotMinutes_14 rfl (Nat.le_of_ble_eq_true rfl) (Nat.le_of_ble_eq_true rfl) (jGo (pc := 15) h dX7_slotMinutes_15 rfl (k11))))))))))
set_option maxRecDepth 20000 in
theorem lX7_slotMinutes_0 (m : qM) : tX7_slotMinutes_0 (wX7_slotMinutes_11 fX7_slotMinutes_11) [some (.ref 4)] [] m = fX7_slotMinutes_0 m := rfl
noncomputable def GX7_slotMinutes : qG Int32 := fun av m => match av with
  | [.ref 4] => fX7_slotMinutes m
  | _ => none
theorem spX7_slotMinutes : qSpI yX7_slotMinutes (.code yX7_slotMinutes cX7_slotMinutes 1 (some .int)) 0 qfin 155 155 1 GX7_slotMinutes := by
  intro av m x m' hG
  unfold GX7_slotMinutes at hG
  split at hG
  · rw [fX7_slotMinutes_d] at hG
    exact ⟨qmeet (J := jI) (r := (x, m')) (av := [.ref 4]) (by decide +kernel) (Nat.le_of_ble_eq_true rfl) (fun C w h hm hx hn => sX7_slotMinutes_0 h hm hx (bX7_slotMinutes_11 h hm hx)) ((lX7_slotMinutes_0 _).trans hG) (Nat.le_of_ble_eq_true rfl), Or.inl ⟨4, _, 7, _, _, rfl, by decide, rfl, qCk_7, rfl⟩⟩
  · cases hG
theorem ml_X9_39 : Jvm.Cond.methodLinkNest RX9 39 yX11_within "ParentEve" ∈ qTw := qm5 (List.mem_of_getElem? (i := 138) (by decide +kernel)) (by decide +kernel)
theorem kd_X9_39 {C : qCx} {w : qWp} {cc : ByteArray} {nL dp n0 n1 pc : Nat} (h : qOk C w RX9 cc nL dp n0 n1) (d : decode cc pc = .ok (.invokestatic 39, 3)) : qCallOk C w nL dp n0 n1 pc 3 0 yX11_within (.code yX11_within cX11_within 3 (some .boolean)) := kindSN h d ml_X9_39 im_X11_within in_ParentEve co_X11_within yk_X11_within (by decide)
theorem dX9_fill_0 : decode cX9_fill 0 = .ok (.iconst 0, 1) := by decide +kernel
theorem dX9_fill_1 : decode cX9_fill 1 = .ok (.istore 4, 2) := by decide +kernel
theorem dX9_fill_3 : decode cX9_fill 3 = .ok (.iload 4, 2) := by decide +kernel
theorem dX9_fill_5 : decode cX9_fill 5 = .ok (.iload_n 2, 1) := by decide +kernel
theorem dX9_fill_6 : decode cX9_fill 6 = .ok (.if_icmp .ge 63, 3) := by decide +kernel
theorem dX9_fill_9 : decode cX9_fill 9 = .ok (.iload 4, 2) := by decide +kernel
theorem dX9_fill_11 : decode cX9_fill 11 = .ok (.aload_n 0, 1) := by decide +kernel
theorem dX9_fill_12 : decode cX9_fill 12 = .ok (.getfield 27, 3) := by decide +kernel
theorem dX9_fill_15 : decode cX9_fill 15 = .ok (.if_icmp .ge 54, 3) := by decide +kernel
theorem dX9_fill_18 : decode cX9_fill 18 = .ok (.aload_n 0, 1) := by decide +kernel
theorem dX9_fill_19 : decode cX9_fill 19 = .ok (.getfield 9, 3) := by decide +kernel
theorem dX9_fill_22 : decode cX9_fill 22 = .ok (.iload 4, 2) := by decide +kernel
theorem dX9_fill_24 : decode cX9_fill 24 = .ok (.iaload, 1) := by decide +kernel
theorem dX9_fill_25 : decode cX9_fill 25 = .ok (.iload_n 1, 1) := by decide +kernel
theorem dX9_fill_26 : decode cX9_fill 26 = .ok (.if_icmp .ne 37, 3) := by decide +kernel
theorem dX9_fill_29 : decode cX9_fill 29 = .ok (.aload_n 0, 1) := by decide +kernel
theorem dX9_fill_30 : decode cX9_fill 30 = .ok (.getfield 18, 3) := by decide +kernel
theorem dX9_fill_33 : decode cX9_fill 33 = .ok (.iload 4, 2) := by decide +kernel
theorem dX9_fill_35 : decode cX9_fill 35 = .ok (.iaload, 1) := by decide +kernel
theorem dX9_fill_36 : decode cX9_fill 36 = .ok (.iconst 0, 1) := by decide +kernel
theorem dX9_fill_37 : decode cX9_fill 37 = .ok (.aload_n 3, 1) := by decide +kernel
theorem dX9_fill_38 : decode cX9_fill 38 = .ok (.arraylength, 1) := by decide +kernel
theorem dX9_fill_39 : decode cX9_fill 39 = .ok (.iconst 1, 1) := by decide +kernel
theorem dX9_fill_40 : decode cX9_fill 40 = .ok (.isub, 1) := by decide +kernel
theorem dX9_fill_41 : decode cX9_fill 41 = .ok (.invokestatic 39, 3) := by decide +kernel
theorem dX9_fill_44 : decode cX9_fill 44 = .ok (.ifCond .eq 19, 3) := by decide +kernel
theorem dX9_fill_47 : decode cX9_fill 47 = .ok (.aload_n 3, 1) := by decide +kernel
theorem dX9_fill_48 : decode cX9_fill 48 = .ok (.aload_n 0, 1) := by decide +kernel
theorem dX9_fill_49 : decode cX9_fill 49 = .ok (.getfield 18, 3) := by decide +kernel
theorem dX9_fill_52 : decode cX9_fill 52 = .ok (.iload 4, 2) := by decide +kernel
theorem dX9_fill_54 : decode cX9_fill 54 = .ok (.iaload, 1) := by decide +kernel
theorem dX9_fill_55 : decode cX9_fill 55 = .ok (.aload_n 0, 1) := by decide +kernel
theorem dX9_fill_56 : decode cX9_fill 56 = .ok (.getfield 21, 3) := by decide +kernel
theorem dX9_fill_59 : decode cX9_fill 59 = .ok (.iload 4, 2) := by decide +kernel
theorem dX9_fill_61 : decode cX9_fill 61 = .ok (.iaload, 1) := by decide +kernel
theorem dX9_fill_62 : decode cX9_fill 62 = .ok (.iastore, 1) := by decide +kernel
theorem dX9_fill_63 : decode cX9_fill 63 = .ok (.iinc 4 1, 3) := by decide +kernel
theorem dX9_fill_66 : decode cX9_fill 66 = .ok (.goto (-63), 3) := by decide +kernel
theorem dX9_fill_69 : decode cX9_fill 69 = .ok (.return_, 1) := by decide +kernel
noncomputable def tX9_fill_90_36 (j2 : qT (Unit × qM)) : qT (Unit × qM) :=
  oInc 4 (1 : Int32) (j2)
noncomputable def wX9_fill_90_36 (k : Int32 → Int32 → Int32 → qM → Option (Unit × qM)) : qT (Unit × qM) := fun lo st m => match lo, st with
  | [some (.ref 74), some (.int a1), some (.int a2), some (.ref 90), some (.int a4)], [] => k a1 a2 a4 m
  | _, _ => none
noncomputable def wX9_fill_90_2 (k : Int32 → Int32 → Int32 → qM → Option (Unit × qM)) : qT (Unit × qM) := fun lo st m => match lo, st with
  | [some (.ref 74), some (.int a1), some (.int a2), some (.ref 90), some (.int a4)], [] => k a1 a2 a4 m
  | _, _ => none
set_option maxRecDepth 20000 in
theorem sX9_fill_90_36 {C : qCx} {w : qWp} (h : qOk C w RX9 cX9_fill 5 1 155 155) (hm : qMt C none) (hx : qNx C) {j2 : qT (Unit × qM)} (k2 : qSnd C w 5 155 (qQf C w 155 155 jV) qfin 155 3 j2) : qSnd C w 5 155 (qQf C w 155 155 jV) qfin 155 63 (tX9_fill_90_36 j2) :=
  cInc (pc := 63) h dX9_fill_63 rfl (jGo (pc := 66) h dX9_fill_66 rfl (k2))
set_option maxRecDepth 20000 in
theorem lX9_fill_90_36 (k2 : Int32 → Int32 → Int32 → qM → Option (Unit × qM)) (a1 : Int32) (a2 : Int32) (a4 : Int32) (m : qM) : tX9_fill_90_36 (wX9_fill_90_2 k2) [some (.ref 74), some (.int a1), some (.int a2), some (.ref 90), some (.int a4)] [] m = fX9_fill_90_36 k2 a1 a2 a4 m := rfl
theorem bX9_fill_90_36 {C : qCx} {w : qWp} (h : qOk C w RX9 cX9_fill 5 1 155 155) (hm : qMt C none) (hx : qNx C) {k2 : Int32 → Int32 → Int32 → qM → Option (Unit × qM)} (h2 : qSnd C w 5 155 (qQf C w 155 155 jV) qfin 155 3 (wX9_fill_90_2 k2)) : qSnd C w 5 155 (qQf C w 155 155 jV) qfin 155 63 (wX9_fill_90_36 (fX9_fill_90_36 k2)) :=
  qSnd_of (fun lo st m x hr0 => by
    unfold wX9_fill_90_36 at hr0
    split at hr0
    · exact ⟨_, (qsub_e (qsub_e (qsub_e (qsub_e (qsub_e qsub_nil))))), (lX9_fill_90_36 _ _ _ _ _).trans hr0⟩
    · cases hr0) (sX9_fill_90_36 h hm hx h2)
noncomputable def tX9_fill_90_2 (j38 : qT (Unit × qM)) (j36 : qT (Unit × qM)) : qT (Unit × qM) :=
  oLi 4 (oLi 2 (oCGe (j38) (oLi 4 (oLa 0 (oGi 74 5 (oCGe (j38) (oLa 0 (oGf 74 0 75 (oLi 4 (oAi 75 80 (oLi 1 (oCEq (oLa 0 (oGf 74 2 77 (oLi 4 (oAi 77 80 (oC (.int (0 : Int32)) (oLa 3 (oLen 90 40 (oC (.int (1 : Int32)) (o2 (· - ·) (oCi GX11_within 3 (oEq (j36) (oLa 3 (oLa 0 (oGf 74 2 77 (oLi 4 (oAi 77 80 (oLa 0 (oGf 74 3 78 (oLi 4 (oAi 78 80 (oWi 90 40 (j36)))))))))))))))))))))) (j36)))))))))))))
noncomputable def wX9_fill_90_38 (k : qM → Option (Unit × qM)) : qT (Unit × qM) := fun lo st m => match lo, st with
  | [_, _, _, _, _], [] => k m
  | _, _ => none
set_option maxRecDepth 20000 in
theorem sX9_fill_90_2 {C : qCx} {w : qWp} (h : qOk C w RX9 cX9_fill 5 1 155 155) (hm : qMt C none) (hx : qNx C) {j38 : qT (Unit × qM)} {j36 : qT (Unit × qM)} (k38 : qSnd C w 5 155 (qQf C w 155 155 jV) qfin 155 69 j38) (k36 : qSnd C w 5 155 (qQf C w 155 155 jV) qfin 155 63 j36) : qSnd C w 5 155 (qQf C w 155 155 jV) qfin 155 3 (tX9_fill_90_2 j38 j36) :=
  cLI (pc := 3) h dX9_fill_3 (cLi (pc := 5) h dX9_fill_5 rfl (jCGe (pc := 6) h dX9_fill_6 rfl (k38) (cLI (pc := 9) h dX9_fill_9 (cLa (pc := 11) h dX9_fill_11 rfl (gGi (pc := 12) h dX9_fill_12 ff_X9_27_74 (Nat.le_of_ble_eq_true rfl) (Nat.le_of_ble_eq_true rfl) (jCGe (pc := 15) h dX9_fill_15 rfl (k38) (cLa (pc := 18) h dX9_fill_18 rfl (gGf (pc := 19) h dX9_fill_19 ff_X9_9_74 (Nat.le_of_ble_eq_true rfl) (Nat.le_of_ble_eq_true rfl) rfl (cLI (pc := 22) h dX9_fill_22 (rAi (pc := 24) h dX9_fill_24 rfl (Nat.le_of_ble_eq_true rfl) (Nat.le_of_ble_eq_true rfl) (cLi (pc := 25) h dX9_fill_25 rfl (jCNe (pc := 26) h dX9_fill_26 rfl (k36) (cLa (pc := 29) h dX9_fill_29 rfl (gGf (pc := 30) h dX9_fill_30 ff_X9_18_74 (Nat.le_of_ble_eq_true rfl) (Nat.le_of_ble_eq_true rfl) rfl (cLI (pc := 33) h dX9_fill_33 (rAi (pc := 35) h dX9_fill_35 rfl (Nat.le_of_ble_eq_true rfl) (Nat.le_of_ble_eq_true rfl) (cC (pc := 36) h dX9_fill_36 rfl (cLa (pc := 37) h dX9_fill_37 rfl (rLen (pc := 38) h dX9_fill_38 rfl (Nat.le_of_ble_eq_true rfl) (Nat.le_of_ble_eq_true rfl) (cC (pc := 39) h dX9_fill_39 rfl (aSub (pc := 40) h dX9_fill_40 (kCi (pc := 41) h (kd_X9_39 h dX9_fill_41) spX11_within (by decide) (by decide) (by decide) (by decide) (jEq (pc := 44) h dX9_fill_44 rfl (k36) (cLa (pc := 47) h dX9_fill_47 rfl (cLa (pc := 48) h dX9_fill_48 rfl (gGf (pc := 49) h dX9_fill_49 ff_X9_18_74 (Nat.le_of_ble_eq_true rfl) (Nat.le_of_ble_eq_true rfl) rfl (cLI (pc := 52) h dX9_fill_52 (rAi (pc := 54) h dX9_fill_54 rfl (Nat.le_of_ble_eq_true rfl) (Nat.le_of_ble_eq_true rfl) (cLa (pc := 55) h dX9_fill_55 rfl (gGf (pc := 56) h dX9_fill_56 ff_X9_21_74 (Nat.le_of_ble_eq_true rfl) (Nat.le_of_ble_eq_true rfl) rfl (cLI (pc := 59) h dX9_fill_59 (rAi (pc := 61) h dX9_fill_61 rfl (Nat.le_of_ble_eq_true rfl) (Nat.le_of_ble_eq_true rfl) (rWi (pc := 62) h dX9_fill_62 rfl (Nat.le_of_ble_eq_true rfl) (Nat.le_of_ble_eq_true rfl) (k36))))))))))))))))))))))))))))))))))
set_option maxRecDepth 20000 in
theorem lX9_fill_90_2 (k38 : qM → Option (Unit × qM)) (n : Nat) (a1 : Int32) (a2 : Int32) (a4 : Int32) (m : qM) : tX9_fill_90_2 (wX9_fill_90_38 k38) (wX9_fill_90_36 (fX9_fill_90_36 (fX9_fill_90_2 k38 n))) [some (.ref 74), some (.int a1), some (.int a2), some (.ref 90), some (.int a4)] [] m = fX9_fill_90_2 k38 (n + 1) a1 a2 a4 m := rfl
theorem bX9_fill_90_2 {C : qCx} {w : qWp} (h : qOk C w RX9 cX9_fill 5 1 155 155) (hm : qMt C none) (hx : qNx C) {k38 : qM → Option (Unit × qM)} (h38 : qSnd C w 5 155 (qQf C w 155 155 jV) qfin 155 69 (wX9_fill_90_38 k38)) : ∀ n : Nat, qSnd C w 5 155 (qQf C w 155 155 jV) qfin 155 3 (wX9_fill_90_2 (fX9_fill_90_2 k38 n))
  | 0 => qSnd_of0 (fun lo st m x hr0 => by
    unfold wX9_fill_90_2 at hr0
    split at hr0
    · cases hr0
    · cases hr0)
  | n + 1 => by
    have ih := bX9_fill_90_2 h hm hx h38 n
    exact qSnd_of (fun lo st m x hr0 => by
    unfold wX9_fill_90_2 at hr0
    split at hr0
    · exact ⟨_, (qsub_e (qsub_e (qsub_e (qsub_e (qsub_e qsub_nil))))), (lX9_fill_90_2 _ n _ _ _ _).trans hr0⟩
    · cases hr0) (sX9_fill_90_2 h hm hx h38 (bX9_fill_90_36 h hm hx ih))
noncomputable def tX9_fill_90_38 : qT (Unit × qM) :=
  eV
set_option maxRecDepth 20000 in
theorem sX9_fill_90_38 {C : qCx} {w : qWp} (h : qOk C w RX9 cX9_fill 5 1 155 155) (hm : qMt C none) (hx : qNx C) : qSnd C w 5 155 (qQf C w 155 155 jV) qfin 155 69 (tX9_fill_90_38) :=
  zV (pc := 69) h hm (Nat.le_refl _) dX9_fill_69
set_option maxRecDepth 20000 in
theorem lX9_fill_90_38 (m : qM) : tX9_fill_90_38 [none, none, none, none, none] [] m = fX9_fill_90_38 m := rfl
theorem bX9_fill_90_38 {C : qCx} {w : qWp} (h : qOk C w RX9 cX9_fill 5 1 155 155) (hm : qMt C none) (hx : qNx C) : qSnd C w 5 155 (qQf C w 155 155 jV) qfin 155 69 (wX9_fill_90_38 fX9_fill_90_38) :=
  qSnd_of (fun lo st m x hr0 => by
    unfold wX9_fill_90_38 at hr0
    split at hr0
    · exact ⟨_, (qsub_n (qsub_n (qsub_n (qsub_n (qsub_n qsub_nil))))), (lX9_fill_90_38 _).trans hr0⟩
    · cases hr0) (sX9_fill_90_38 h hm hx)
noncomputable def tX9_fill_90_0 (j2 : qT (Unit × qM)) : qT (Unit × qM) :=
  oC (.int (0 : Int32)) (oSi 4 (j2))
set_option maxRecDepth 20000 in
theorem sX9_fill_90_0 {C : qCx} {w : qWp} (h : qOk C w RX9 cX9_fill 5 1 155 155) (hm : qMt C none) (hx : qNx C) {j2 : qT (Unit × qM)} (k2 : qSnd C w 5 155 (qQf C w 155 155 jV) qfin 155 3 j2) : qSnd C w 5 155 (qQf C w 155 155 jV) qfin 155 0 (tX9_fill_90_0 j2) :=
  cC (pc := 0) h dX9_fill_0 rfl (cSI (pc := 1) h dX9_fill_1 (k2))
set_option maxRecDepth 20000 in
theorem lX9_fill_90_0 (a1 : Int32) (a2 : Int32) (m : qM) : tX9_fill_90_0 (wX9_fill_90_2 (fX9_fill_90_2 fX9_fill_90_38 FU)) [some (.ref 74), some (.int a1), some (.int a2), some (.ref 90), none] [] m = fX9_fill_90_0 a1 a2 m := rfl
noncomputable def GX9_fill_90 : qG Unit := fun av m => match av with
  | [.ref 74, .int a1, .int a2, .ref 90] => fX9_fill_90 a1 a2 m
  | _ => none
theorem spX9_fill_90 : qSpV yX9_fill (.code yX9_fill cX9_fill 5 none) 1 qfin 155 155 1 GX9_fill_90 := by
  intro av m m' hG
  unfold GX9_fill_90 at hG
  split at hG
  · rename_i a1 a2
    rw [fX9_fill_90_d] at hG
    exact ⟨qmeet (J := jV) (r := ((), m')) (av := [.ref 74, .int a1, .int a2, .ref 90]) (by decide +kernel) (Nat.le_of_ble_eq_true rfl) (fun C w h hm hx hn => sX9_fill_90_0 h hm hx (bX9_fill_90_2 h hm hx (bX9_fill_90_38 h hm hx) FU)) ((lX9_fill_90_0 _ _ _).trans hG) (Nat.le_of_ble_eq_true rfl), Or.inl ⟨74, _, 9, _, _, rfl, by decide, rfl, qCk_9, rfl⟩⟩
  · cases hG
noncomputable def tX9_fill_91_36 (j2 : qT (Unit × qM)) : qT (Unit × qM) :=
  oInc 4 (1 : Int32) (j2)
noncomputable def wX9_fill_91_36 (k : Int32 → Int32 → Int32 → qM → Option (Unit × qM)) : qT (Unit × qM) := fun lo st m => match lo, st with
  | [some (.ref 74), some (.int a1), some (.int a2), some (.ref 91), some (.int a4)], [] => k a1 a2 a4 m
  | _, _ => none
noncomputable def wX9_fill_91_2 (k : Int32 → Int32 → Int32 → qM → Option (Unit × qM)) : qT (Unit × qM) := fun lo st m => match lo, st with
  | [some (.ref 74), some (.int a1), some (.int a2), some (.ref 91), some (.int a4)], [] => k a1 a2 a4 m
  | _, _ => none
set_option maxRecDepth 20000 in
theorem sX9_fill_91_36 {C : qCx} {w : qWp} (h : qOk C w RX9 cX9_fill 5 1 155 155) (hm : qMt C none) (hx : qNx C) {j2 : qT (Unit × qM)} (k2 : qSnd C w 5 155 (qQf C w 155 155 jV) qfin 155 3 j2) : qSnd C w 5 155 (qQf C w 155 155 jV) qfin 155 63 (tX9_fill_91_36 j2) :=
  cInc (pc := 63) h dX9_fill_63 rfl (jGo (pc := 66) h dX9_fill_66 rfl (k2))
set_option maxRecDepth 20000 in
theorem lX9_fill_91_36 (k2 : Int32 → Int32 → Int32 → qM → Option (Unit × qM)) (a1 : Int32) (a2 : Int32) (a4 : Int32) (m : qM) : tX9_fill_91_36 (wX9_fill_91_2 k2) [some (.ref 74), some (.int a1), some (.int a2), some (.ref 91), some (.int a4)] [] m = fX9_fill_91_36 k2 a1 a2 a4 m := rfl
theorem bX9_fill_91_36 {C : qCx} {w : qWp} (h : qOk C w RX9 cX9_fill 5 1 155 155) (hm : qMt C none) (hx : qNx C) {k2 : Int32 → Int32 → Int32 → qM → Option (Unit × qM)} (h2 : qSnd C w 5 155 (qQf C w 155 155 jV) qfin 155 3 (wX9_fill_91_2 k2)) : qSnd C w 5 155 (qQf C w 155 155 jV) qfin 155 63 (wX9_fill_91_36 (fX9_fill_91_36 k2)) :=
  qSnd_of (fun lo st m x hr0 => by
    unfold wX9_fill_91_36 at hr0
    split at hr0
    · exact ⟨_, (qsub_e (qsub_e (qsub_e (qsub_e (qsub_e qsub_nil))))), (lX9_fill_91_36 _ _ _ _ _).trans hr0⟩
    · cases hr0) (sX9_fill_91_36 h hm hx h2)
noncomputable def tX9_fill_91_2 (j38 : qT (Unit × qM)) (j36 : qT (Unit × qM)) : qT (Unit × qM) :=
  oLi 4 (oLi 2 (oCGe (j38) (oLi 4 (oLa 0 (oGi 74 5 (oCGe (j38) (oLa 0 (oGf 74 0 75 (oLi 4 (oAi 75 80 (oLi 1 (oCEq (oLa 0 (oGf 74 2 77 (oLi 4 (oAi 77 80 (oC (.int (0 : Int32)) (oLa 3 (oLen 91 40 (oC (.int (1 : Int32)) (o2 (· - ·) (oCi GX11_within 3 (oEq (j36) (oLa 3 (oLa 0 (oGf 74 2 77 (oLi 4 (oAi 77 80 (oLa 0 (oGf 74 3 78 (oLi 4 (oAi 78 80 (oWi 91 40 (j36)))))))))))))))))))))) (j36)))))))))))))
noncomputable def wX9_fill_91_38 (k : qM → Option (Unit × qM)) : qT (Unit × qM) := fun lo st m => match lo, st with
  | [_, _, _, _, _], [] => k m
  | _, _ => none
set_option maxRecDepth 20000 in
theorem sX9_fill_91_2 {C : qCx} {w : qWp} (h : qOk C w RX9 cX9_fill 5 1 155 155) (hm : qMt C none) (hx : qNx C) {j38 : qT (Unit × qM)} {j36 : qT (Unit × qM)} (k38 : qSnd C w 5 155 (qQf C w 155 155 jV) qfin 155 69 j38) (k36 : qSnd C w 5 155 (qQf C w 155 155 jV) qfin 155 63 j36) : qSnd C w 5 155 (qQf C w 155 155 jV) qfin 155 3 (tX9_fill_91_2 j38 j36) :=
  cLI (pc := 3) h dX9_fill_3 (cLi (pc := 5) h dX9_fill_5 rfl (jCGe (pc := 6) h dX9_fill_6 rfl (k38) (cLI (pc := 9) h dX9_fill_9 (cLa (pc := 11) h dX9_fill_11 rfl (gGi (pc := 12) h dX9_fill_12 ff_X9_27_74 (Nat.le_of_ble_eq_true rfl) (Nat.le_of_ble_eq_true rfl) (jCGe (pc := 15) h dX9_fill_15 rfl (k38) (cLa (pc := 18) h dX9_fill_18 rfl (gGf (pc := 19) h dX9_fill_19 ff_X9_9_74 (Nat.le_of_ble_eq_true rfl) (Nat.le_of_ble_eq_true rfl) rfl (cLI (pc := 22) h dX9_fill_22 (rAi (pc := 24) h dX9_fill_24 rfl (Nat.le_of_ble_eq_true rfl) (Nat.le_of_ble_eq_true rfl) (cLi (pc := 25) h dX9_fill_25 rfl (jCNe (pc := 26) h dX9_fill_26 rfl (k36) (cLa (pc := 29) h dX9_fill_29 rfl (gGf (pc := 30) h dX9_fill_30 ff_X9_18_74 (Nat.le_of_ble_eq_true rfl) (Nat.le_of_ble_eq_true rfl) rfl (cLI (pc := 33) h dX9_fill_33 (rAi (pc := 35) h dX9_fill_35 rfl (Nat.le_of_ble_eq_true rfl) (Nat.le_of_ble_eq_true rfl) (cC (pc := 36) h dX9_fill_36 rfl (cLa (pc := 37) h dX9_fill_37 rfl (rLen (pc := 38) h dX9_fill_38 rfl (Nat.le_of_ble_eq_true rfl) (Nat.le_of_ble_eq_true rfl) (cC (pc := 39) h dX9_fill_39 rfl (aSub (pc := 40) h dX9_fill_40 (kCi (pc := 41) h (kd_X9_39 h dX9_fill_41) spX11_within (by decide) (by decide) (by decide) (by decide) (jEq (pc := 44) h dX9_fill_44 rfl (k36) (cLa (pc := 47) h dX9_fill_47 rfl (cLa (pc := 48) h dX9_fill_48 rfl (gGf (pc := 49) h dX9_fill_49 ff_X9_18_74 (Nat.le_of_ble_eq_true rfl) (Nat.le_of_ble_eq_true rfl) rfl (cLI (pc := 52) h dX9_fill_52 (rAi (pc := 54) h dX9_fill_54 rfl (Nat.le_of_ble_eq_true rfl) (Nat.le_of_ble_eq_true rfl) (cLa (pc := 55) h dX9_fill_55 rfl (gGf (pc := 56) h dX9_fill_56 ff_X9_21_74 (Nat.le_of_ble_eq_true rfl) (Nat.le_of_ble_eq_true rfl) rfl (cLI (pc := 59) h dX9_fill_59 (rAi (pc := 61) h dX9_fill_61 rfl (Nat.le_of_ble_eq_true rfl) (Nat.le_of_ble_eq_true rfl) (rWi (pc := 62) h dX9_fill_62 rfl (Nat.le_of_ble_eq_true rfl) (Nat.le_of_ble_eq_true rfl) (k36))))))))))))))))))))))))))))))))))
set_option maxRecDepth 20000 in
theorem lX9_fill_91_2 (k38 : qM → Option (Unit × qM)) (n : Nat) (a1 : Int32) (a2 : Int32) (a4 : Int32) (m : qM) : tX9_fill_91_2 (wX9_fill_91_38 k38) (wX9_fill_91_36 (fX9_fill_91_36 (fX9_fill_91_2 k38 n))) [some (.ref 74), some (.int a1), some (.int a2), some (.ref 91), some (.int a4)] [] m = fX9_fill_91_2 k38 (n + 1) a1 a2 a4 m := rfl
theorem bX9_fill_91_2 {C : qCx} {w : qWp} (h : qOk C w RX9 cX9_fill 5 1 155 155) (hm : qMt C none) (hx : qNx C) {k38 : qM → Option (Unit × qM)} (h38 : qSnd C w 5 155 (qQf C w 155 155 jV) qfin 155 69 (wX9_fill_91_38 k38)) : ∀ n : Nat, qSnd C w 5 155 (qQf C w 155 155 jV) qfin 155 3 (wX9_fill_91_2 (fX9_fill_91_2 k38 n))
  | 0 => qSnd_of0 (fun lo st m x hr0 => by
    unfold wX9_fill_91_2 at hr0
    split at hr0
    · cases hr0
    · cases hr0)
  | n + 1 => by
    have ih := bX9_fill_91_2 h hm hx h38 n
    exact qSnd_of (fun lo st m x hr0 => by
    unfold wX9_fill_91_2 at hr0
    split at hr0
    · exact ⟨_, (qsub_e (qsub_e (qsub_e (qsub_e (qsub_e qsub_nil))))), (lX9_fill_91_2 _ n _ _ _ _).trans hr0⟩
    · cases hr0) (sX9_fill_91_2 h hm hx h38 (bX9_fill_91_36 h hm hx ih))
noncomputable def tX9_fill_91_38 : qT (Unit × qM) :=
  eV
set_option maxRecDepth 20000 in
theorem sX9_fill_91_38 {C : qCx} {w : qWp} (h : qOk C w RX9 cX9_fill 5 1 155 155) (hm : qMt C none) (hx : qNx C) : qSnd C w 5 155 (qQf C w 155 155 jV) qfin 155 69 (tX9_fill_91_38) :=
  zV (pc := 69) h hm (Nat.le_refl _) dX9_fill_69
set_option maxRecDepth 20000 in
theorem lX9_fill_91_38 (m : qM) : tX9_fill_91_38 [none, none, none, none, none] [] m = fX9_fill_91_38 m := rfl
theorem bX9_fill_91_38 {C : qCx} {w : qWp} (h : qOk C w RX9 cX9_fill 5 1 155 155) (hm : qMt C none) (hx : qNx C) : qSnd C w 5 155 (qQf C w 155 155 jV) qfin 155 69 (wX9_fill_91_38 fX9_fill_91_38) :=
  qSnd_of (fun lo st m x hr0 => by
    unfold wX9_fill_91_38 at hr0
    split at hr0
    · exact ⟨_, (qsub_n (qsub_n (qsub_n (qsub_n (qsub_n qsub_nil))))), (lX9_fill_91_38 _).trans hr0⟩
    · cases hr0) (sX9_fill_91_38 h hm hx)
noncomputable def tX9_fill_91_0 (j2 : qT (Unit × qM)) : qT (Unit × qM) :=
  oC (.int (0 : Int32)) (oSi 4 (j2))
set_option maxRecDepth 20000 in
theorem sX9_fill_91_0 {C : qCx} {w : qWp} (h : qOk C w RX9 cX9_fill 5 1 155 155) (hm : qMt C none) (hx : qNx C) {j2 : qT (Unit × qM)} (k2 : qSnd C w 5 155 (qQf C w 155 155 jV) qfin 155 3 j2) : qSnd C w 5 155 (qQf C w 155 155 jV) qfin 155 0 (tX9_fill_91_0 j2) :=
  cC (pc := 0) h dX9_fill_0 rfl (cSI (pc := 1) h dX9_fill_1 (k2))
set_option maxRecDepth 20000 in
theorem lX9_fill_91_0 (a1 : Int32) (a2 : Int32) (m : qM) : tX9_fill_91_0 (wX9_fill_91_2 (fX9_fill_91_2 fX9_fill_91_38 FU)) [some (.ref 74), some (.int a1), some (.int a2), some (.ref 91), none] [] m = fX9_fill_91_0 a1 a2 m := rfl
noncomputable def GX9_fill_91 : qG Unit := fun av m => match av with
  | [.ref 74, .int a1, .int a2, .ref 91] => fX9_fill_91 a1 a2 m
  | _ => none
theorem spX9_fill_91 : qSpV yX9_fill (.code yX9_fill cX9_fill 5 none) 1 qfin 155 155 1 GX9_fill_91 := by
  intro av m m' hG
  unfold GX9_fill_91 at hG
  split at hG
  · rename_i a1 a2
    rw [fX9_fill_91_d] at hG
    exact ⟨qmeet (J := jV) (r := ((), m')) (av := [.ref 74, .int a1, .int a2, .ref 91]) (by decide +kernel) (Nat.le_of_ble_eq_true rfl) (fun C w h hm hx hn => sX9_fill_91_0 h hm hx (bX9_fill_91_2 h hm hx (bX9_fill_91_38 h hm hx) FU)) ((lX9_fill_91_0 _ _ _).trans hG) (Nat.le_of_ble_eq_true rfl), Or.inl ⟨74, _, 9, _, _, rfl, by decide, rfl, qCk_9, rfl⟩⟩
  · cases hG
noncomputable def tX9_fill_92_36 (j2 : qT (Unit × qM)) : qT (Unit × qM) :=
  oInc 4 (1 : Int32) (j2)
noncomputable def wX9_fill_92_36 (k : Int32 → Int32 → Int32 → qM → Option (Unit × qM)) : qT (Unit × qM) := fun lo st m => match lo, st with
  | [some (.ref 74), some (.int a1), some (.int a2), some (.ref 92), some (.int a4)], [] => k a1 a2 a4 m
  | _, _ => none
noncomputable def wX9_fill_92_2 (k : Int32 → Int32 → Int32 → qM → Option (Unit × qM)) : qT (Unit × qM) := fun lo st m => match lo, st with
  | [some (.ref 74), some (.int a1), some (.int a2), some (.ref 92), some (.int a4)], [] => k a1 a2 a4 m
  | _, _ => none
set_option maxRecDepth 20000 in
theorem sX9_fill_92_36 {C : qCx} {w : qWp} (h : qOk C w RX9 cX9_fill 5 1 155 155) (hm : qMt C none) (hx : qNx C) {j2 : qT (Unit × qM)} (k2 : qSnd C w 5 155 (qQf C w 155 155 jV) qfin 155 3 j2) : qSnd C w 5 155 (qQf C w 155 155 jV) qfin 155 63 (tX9_fill_92_36 j2) :=
  cInc (pc := 63) h dX9_fill_63 rfl (jGo (pc := 66) h dX9_fill_66 rfl (k2))
set_option maxRecDepth 20000 in
theorem lX9_fill_92_36 (k2 : Int32 → Int32 → Int32 → qM → Option (Unit × qM)) (a1 : Int32) (a2 : Int32) (a4 : Int32) (m : qM) : tX9_fill_92_36 (wX9_fill_92_2 k2) [some (.ref 74), some (.int a1), some (.int a2), some (.ref 92), some (.int a4)] [] m = fX9_fill_92_36 k2 a1 a2 a4 m := rfl
theorem bX9_fill_92_36 {C : qCx} {w : qWp} (h : qOk C w RX9 cX9_fill 5 1 155 155) (hm : qMt C none) (hx : qNx C) {k2 : Int32 → Int32 → Int32 → qM → Option (Unit × qM)} (h2 : qSnd C w 5 155 (qQf C w 155 155 jV) qfin 155 3 (wX9_fill_92_2 k2)) : qSnd C w 5 155 (qQf C w 155 155 jV) qfin 155 63 (wX9_fill_92_36 (fX9_fill_92_36 k2)) :=
  qSnd_of (fun lo st m x hr0 => by
    unfold wX9_fill_92_36 at hr0
    split at hr0
    · exact ⟨_, (qsub_e (qsub_e (qsub_e (qsub_e (qsub_e qsub_nil))))), (lX9_fill_92_36 _ _ _ _ _).trans hr0⟩
    · cases hr0) (sX9_fill_92_36 h hm hx h2)
noncomputable def tX9_fill_92_2 (j38 : qT (Unit × qM)) (j36 : qT (Unit × qM)) : qT (Unit × qM) :=
  oLi 4 (oLi 2 (oCGe (j38) (oLi 4 (oLa 0 (oGi 74 5 (oCGe (j38) (oLa 0 (oGf 74 0 75 (oLi 4 (oAi 75 80 (oLi 1 (oCEq (oLa 0 (oGf 74 2 77 (oLi 4 (oAi 77 80 (oC (.int (0 : Int32)) (oLa 3 (oLen 92 15 (oC (.int (1 : Int32)) (o2 (· - ·) (oCi GX11_within 3 (oEq (j36) (oLa 3 (oLa 0 (oGf 74 2 77 (oLi 4 (oAi 77 80 (oLa 0 (oGf 74 3 78 (oLi 4 (oAi 78 80 (oWi 92 15 (j36)))))))))))))))))))))) (j36)))))))))))))
noncomputable def wX9_fill_92_38 (k : qM → Option (Unit × qM)) : qT (Unit × qM) := fun lo st m => match lo, st with
  | [_, _, _, _, _], [] => k m
  | _, _ => none
set_option maxRecDepth 20000 in
theorem sX9_fill_92_2 {C : qCx} {w : qWp} (h : qOk C w RX9 cX9_fill 5 1 155 155) (hm : qMt C none) (hx : qNx C) {j38 : qT (Unit × qM)} {j36 : qT (Unit × qM)} (k38 : qSnd C w 5 155 (qQf C w 155 155 jV) qfin 155 69 j38) (k36 : qSnd C w 5 155 (qQf C w 155 155 jV) qfin 155 63 j36) : qSnd C w 5 155 (qQf C w 155 155 jV) qfin 155 3 (tX9_fill_92_2 j38 j36) :=
  cLI (pc := 3) h dX9_fill_3 (cLi (pc := 5) h dX9_fill_5 rfl (jCGe (pc := 6) h dX9_fill_6 rfl (k38) (cLI (pc := 9) h dX9_fill_9 (cLa (pc := 11) h dX9_fill_11 rfl (gGi (pc := 12) h dX9_fill_12 ff_X9_27_74 (Nat.le_of_ble_eq_true rfl) (Nat.le_of_ble_eq_true rfl) (jCGe (pc := 15) h dX9_fill_15 rfl (k38) (cLa (pc := 18) h dX9_fill_18 rfl (gGf (pc := 19) h dX9_fill_19 ff_X9_9_74 (Nat.le_of_ble_eq_true rfl) (Nat.le_of_ble_eq_true rfl) rfl (cLI (pc := 22) h dX9_fill_22 (rAi (pc := 24) h dX9_fill_24 rfl (Nat.le_of_ble_eq_true rfl) (Nat.le_of_ble_eq_true rfl) (cLi (pc := 25) h dX9_fill_25 rfl (jCNe (pc := 26) h dX9_fill_26 rfl (k36) (cLa (pc := 29) h dX9_fill_29 rfl (gGf (pc := 30) h dX9_fill_30 ff_X9_18_74 (Nat.le_of_ble_eq_true rfl) (Nat.le_of_ble_eq_true rfl) rfl (cLI (pc := 33) h dX9_fill_33 (rAi (pc := 35) h dX9_fill_35 rfl (Nat.le_of_ble_eq_true rfl) (Nat.le_of_ble_eq_true rfl) (cC (pc := 36) h dX9_fill_36 rfl (cLa (pc := 37) h dX9_fill_37 rfl (rLen (pc := 38) h dX9_fill_38 rfl (Nat.le_of_ble_eq_true rfl) (Nat.le_of_ble_eq_true rfl) (cC (pc := 39) h dX9_fill_39 rfl (aSub (pc := 40) h dX9_fill_40 (kCi (pc := 41) h (kd_X9_39 h dX9_fill_41) spX11_within (by decide) (by decide) (by decide) (by decide) (jEq (pc := 44) h dX9_fill_44 rfl (k36) (cLa (pc := 47) h dX9_fill_47 rfl (cLa (pc := 48) h dX9_fill_48 rfl (gGf (pc := 49) h dX9_fill_49 ff_X9_18_74 (Nat.le_of_ble_eq_true rfl) (Nat.le_of_ble_eq_true rfl) rfl (cLI (pc := 52) h dX9_fill_52 (rAi (pc := 54) h dX9_fill_54 rfl (Nat.le_of_ble_eq_true rfl) (Nat.le_of_ble_eq_true rfl) (cLa (pc := 55) h dX9_fill_55 rfl (gGf (pc := 56) h dX9_fill_56 ff_X9_21_74 (Nat.le_of_ble_eq_true rfl) (Nat.le_of_ble_eq_true rfl) rfl (cLI (pc := 59) h dX9_fill_59 (rAi (pc := 61) h dX9_fill_61 rfl (Nat.le_of_ble_eq_true rfl) (Nat.le_of_ble_eq_true rfl) (rWi (pc := 62) h dX9_fill_62 rfl (Nat.le_of_ble_eq_true rfl) (Nat.le_of_ble_eq_true rfl) (k36))))))))))))))))))))))))))))))))))
set_option maxRecDepth 20000 in
theorem lX9_fill_92_2 (k38 : qM → Option (Unit × qM)) (n : Nat) (a1 : Int32) (a2 : Int32) (a4 : Int32) (m : qM) : tX9_fill_92_2 (wX9_fill_92_38 k38) (wX9_fill_92_36 (fX9_fill_92_36 (fX9_fill_92_2 k38 n))) [some (.ref 74), some (.int a1), some (.int a2), some (.ref 92), some (.int a4)] [] m = fX9_fill_92_2 k38 (n + 1) a1 a2 a4 m := rfl
theorem bX9_fill_92_2 {C : qCx} {w : qWp} (h : qOk C w RX9 cX9_fill 5 1 155 155) (hm : qMt C none) (hx : qNx C) {k38 : qM → Option (Unit × qM)} (h38 : qSnd C w 5 155 (qQf C w 155 155 jV) qfin 155 69 (wX9_fill_92_38 k38)) : ∀ n : Nat, qSnd C w 5 155 (qQf C w 155 155 jV) qfin 155 3 (wX9_fill_92_2 (fX9_fill_92_2 k38 n))
  | 0 => qSnd_of0 (fun lo st m x hr0 => by
    unfold wX9_fill_92_2 at hr0
    split at hr0
    · cases hr0
    · cases hr0)
  | n + 1 => by
    have ih := bX9_fill_92_2 h hm hx h38 n
    exact qSnd_of (fun lo st m x hr0 => by
    unfold wX9_fill_92_2 at hr0
    split at hr0
    · exact ⟨_, (qsub_e (qsub_e (qsub_e (qsub_e (qsub_e qsub_nil))))), (lX9_fill_92_2 _ n _ _ _ _).trans hr0⟩
    · cases hr0) (sX9_fill_92_2 h hm hx h38 (bX9_fill_92_36 h hm hx ih))
noncomputable def tX9_fill_92_38 : qT (Unit × qM) :=
  eV
set_option maxRecDepth 20000 in
theorem sX9_fill_92_38 {C : qCx} {w : qWp} (h : qOk C w RX9 cX9_fill 5 1 155 155) (hm : qMt C none) (hx : qNx C) : qSnd C w 5 155 (qQf C w 155 155 jV) qfin 155 69 (tX9_fill_92_38) :=
  zV (pc := 69) h hm (Nat.le_refl _) dX9_fill_69
set_option maxRecDepth 20000 in
theorem lX9_fill_92_38 (m : qM) : tX9_fill_92_38 [none, none, none, none, none] [] m = fX9_fill_92_38 m := rfl
theorem bX9_fill_92_38 {C : qCx} {w : qWp} (h : qOk C w RX9 cX9_fill 5 1 155 155) (hm : qMt C none) (hx : qNx C) : qSnd C w 5 155 (qQf C w 155 155 jV) qfin 155 69 (wX9_fill_92_38 fX9_fill_92_38) :=
  qSnd_of (fun lo st m x hr0 => by
    unfold wX9_fill_92_38 at hr0
    split at hr0
    · exact ⟨_, (qsub_n (qsub_n (qsub_n (qsub_n (qsub_n qsub_nil))))), (lX9_fill_92_38 _).trans hr0⟩
    · cases hr0) (sX9_fill_92_38 h hm hx)
noncomputable def tX9_fill_92_0 (j2 : qT (Unit × qM)) : qT (Unit × qM) :=
  oC (.int (0 : Int32)) (oSi 4 (j2))
set_option maxRecDepth 20000 in
theorem sX9_fill_92_0 {C : qCx} {w : qWp} (h : qOk C w RX9 cX9_fill 5 1 155 155) (hm : qMt C none) (hx : qNx C) {j2 : qT (Unit × qM)} (k2 : qSnd C w 5 155 (qQf C w 155 155 jV) qfin 155 3 j2) : qSnd C w 5 155 (qQf C w 155 155 jV) qfin 155 0 (tX9_fill_92_0 j2) :=
  cC (pc := 0) h dX9_fill_0 rfl (cSI (pc := 1) h dX9_fill_1 (k2))
set_option maxRecDepth 20000 in
theorem lX9_fill_92_0 (a1 : Int32) (a2 : Int32) (m : qM) : tX9_fill_92_0 (wX9_fill_92_2 (fX9_fill_92_2 fX9_fill_92_38 FU)) [some (.ref 74), some (.int a1), some (.int a2), some (.ref 92), none] [] m = fX9_fill_92_0 a1 a2 m := rfl
noncomputable def GX9_fill_92 : qG Unit := fun av m => match av with
  | [.ref 74, .int a1, .int a2, .ref 92] => fX9_fill_92 a1 a2 m
  | _ => none
theorem spX9_fill_92 : qSpV yX9_fill (.code yX9_fill cX9_fill 5 none) 1 qfin 155 155 1 GX9_fill_92 := by
  intro av m m' hG
  unfold GX9_fill_92 at hG
  split at hG
  · rename_i a1 a2
    rw [fX9_fill_92_d] at hG
    exact ⟨qmeet (J := jV) (r := ((), m')) (av := [.ref 74, .int a1, .int a2, .ref 92]) (by decide +kernel) (Nat.le_of_ble_eq_true rfl) (fun C w h hm hx hn => sX9_fill_92_0 h hm hx (bX9_fill_92_2 h hm hx (bX9_fill_92_38 h hm hx) FU)) ((lX9_fill_92_0 _ _ _).trans hG) (Nat.le_of_ble_eq_true rfl), Or.inl ⟨74, _, 9, _, _, rfl, by decide, rfl, qCk_9, rfl⟩⟩
  · cases hG
theorem im_X4_laidOfTeacher : Jvm.Cond.instanceMethod yX4_laidOfTeacher ∈ qTw := qm5 (List.mem_of_getElem? (i := 128) (by decide +kernel)) (by decide +kernel)
theorem se_X4_laidOfTeacher : Jvm.Cond.selects yX4_laidOfTeacher.cls yX4_laidOfTeacher yX4_laidOfTeacher ∈ qTw := qm5 (List.mem_of_getElem? (i := 129) (by decide +kernel)) (by decide +kernel)
theorem co_X4_laidOfTeacher : Jvm.Cond.code yX4_laidOfTeacher cX4_laidOfTeacher 2 (some .int) ∈ qTw := qm5 (List.mem_of_getElem? (i := 130) (by decide +kernel)) (by decide +kernel)
theorem yk_X4_laidOfTeacher : qYk yX4_laidOfTeacher 1 := ⟨⟨by decide +kernel, by decide +kernel⟩, by decide +kernel⟩
theorem ml_X1_97 : Jvm.Cond.methodLink RX1 97 yX4_laidOfTeacher ∈ qTw := qm5 (List.mem_of_getElem? (i := 127) (by decide +kernel)) (by decide +kernel)
theorem kd_X1_97 {C : qCx} {w : qWp} {cc : ByteArray} {nL dp n0 n1 pc : Nat} (h : qOk C w RX1 cc nL dp n0 n1) (d : decode cc pc = .ok (.invokevirtual 97, 3)) : qCallOk C w nL dp n0 n1 pc 2 1 yX4_laidOfTeacher (.code yX4_laidOfTeacher cX4_laidOfTeacher 2 (some .int)) := kindV h d ml_X1_97 im_X4_laidOfTeacher se_X4_laidOfTeacher in_ParentEve_Plan co_X4_laidOfTeacher yk_X4_laidOfTeacher (by decide)
theorem ml_X1_103 : Jvm.Cond.methodLink RX1 103 yX3_familySlots ∈ qTw := qm5 (List.mem_of_getElem? (i := 131) (by decide +kernel)) (by decide +kernel)
theorem kd_X1_103 {C : qCx} {w : qWp} {cc : ByteArray} {nL dp n0 n1 pc : Nat} (h : qOk C w RX1 cc nL dp n0 n1) (d : decode cc pc = .ok (.invokevirtual 103, 3)) : qCallOk C w nL dp n0 n1 pc 2 1 yX3_familySlots (.code yX3_familySlots cX3_familySlots 2 (some .int)) := kindV h d ml_X1_103 im_X3_familySlots se_X3_familySlots in_ParentEve_People co_X3_familySlots yk_X3_familySlots (by decide)
theorem ml_X1_108 : Jvm.Cond.methodLinkNest RX1 108 yX11_leastOf "ParentEve" ∈ qTw := qm5 (List.mem_of_getElem? (i := 132) (by decide +kernel)) (by decide +kernel)
theorem kd_X1_108 {C : qCx} {w : qWp} {cc : ByteArray} {nL dp n0 n1 pc : Nat} (h : qOk C w RX1 cc nL dp n0 n1) (d : decode cc pc = .ok (.invokestatic 108, 3)) : qCallOk C w nL dp n0 n1 pc 1 0 yX11_leastOf (.code yX11_leastOf cX11_leastOf 1 (some .int)) := kindSN h d ml_X1_108 im_X11_leastOf in_ParentEve co_X11_leastOf yk_X11_leastOf (by decide)
theorem im_X7_slotMinutes : Jvm.Cond.instanceMethod yX7_slotMinutes ∈ qTw := qm3 (List.mem_of_getElem? (i := 117) (by decide +kernel)) (by decide +kernel)
theorem se_X7_slotMinutes : Jvm.Cond.selects yX7_slotMinutes.cls yX7_slotMinutes yX7_slotMinutes ∈ qTw := qm3 (List.mem_of_getElem? (i := 118) (by decide +kernel)) (by decide +kernel)
theorem co_X7_slotMinutes : Jvm.Cond.code yX7_slotMinutes cX7_slotMinutes 1 (some .int) ∈ qTw := qm3 (List.mem_of_getElem? (i := 119) (by decide +kernel)) (by decide +kernel)
theorem yk_X7_slotMinutes : qYk yX7_slotMinutes 0 := ⟨⟨by decide +kernel, by decide +kernel⟩, by decide +kernel⟩
theorem ml_X1_111 : Jvm.Cond.methodLink RX1 111 yX7_slotMinutes ∈ qTw := qm5 (List.mem_of_getElem? (i := 133) (by decide +kernel)) (by decide +kernel)
theorem kd_X1_111 {C : qCx} {w : qWp} {cc : ByteArray} {nL dp n0 n1 pc : Nat} (h : qOk C w RX1 cc nL dp n0 n1) (d : decode cc pc = .ok (.invokevirtual 111, 3)) : qCallOk C w nL dp n0 n1 pc 1 1 yX7_slotMinutes (.code yX7_slotMinutes cX7_slotMinutes 1 (some .int)) := kindV h d ml_X1_111 im_X7_slotMinutes se_X7_slotMinutes in_ParentEve_Rules co_X7_slotMinutes yk_X7_slotMinutes (by decide)
theorem im_X9_fill : Jvm.Cond.instanceMethod yX9_fill ∈ qTw := qm5 (List.mem_of_getElem? (i := 135) (by decide +kernel)) (by decide +kernel)
theorem se_X9_fill : Jvm.Cond.selects yX9_fill.cls yX9_fill yX9_fill ∈ qTw := qm5 (List.mem_of_getElem? (i := 136) (by decide +kernel)) (by decide +kernel)
theorem co_X9_fill : Jvm.Cond.code yX9_fill cX9_fill 5 none ∈ qTw := qm5 (List.mem_of_getElem? (i := 137) (by decide +kernel)) (by decide +kernel)
theorem yk_X9_fill : qYk yX9_fill 3 := ⟨⟨by decide +kernel, by decide +kernel⟩, by decide +kernel⟩
theorem ml_X1_117 : Jvm.Cond.methodLink RX1 117 yX9_fill ∈ qTw := qm5 (List.mem_of_getElem? (i := 134) (by decide +kernel)) (by decide +kernel)
theorem kd_X1_117 {C : qCx} {w : qWp} {cc : ByteArray} {nL dp n0 n1 pc : Nat} (h : qOk C w RX1 cc nL dp n0 n1) (d : decode cc pc = .ok (.invokevirtual 117, 3)) : qCallOk C w nL dp n0 n1 pc 4 1 yX9_fill (.code yX9_fill cX9_fill 5 none) := kindV h d ml_X1_117 im_X9_fill se_X9_fill in_ParentEve_Tellings co_X9_fill yk_X9_fill (by decide)
theorem dX1_prepare_0 : decode cX1_prepare 0 = .ok (.aload_n 0, 1) := by decide +kernel
theorem dX1_prepare_1 : decode cX1_prepare 1 = .ok (.iload_n 1, 1) := by decide +kernel
theorem dX1_prepare_2 : decode cX1_prepare 2 = .ok (.putfield 26, 3) := by decide +kernel
theorem dX1_prepare_5 : decode cX1_prepare 5 = .ok (.aload_n 0, 1) := by decide +kernel
theorem dX1_prepare_6 : decode cX1_prepare 6 = .ok (.iload_n 1, 1) := by decide +kernel
theorem dX1_prepare_7 : decode cX1_prepare 7 = .ok (.bipush 40, 2) := by decide +kernel
theorem dX1_prepare_9 : decode cX1_prepare 9 = .ok (.imul, 1) := by decide +kernel
theorem dX1_prepare_10 : decode cX1_prepare 10 = .ok (.putfield 22, 3) := by decide +kernel
theorem dX1_prepare_13 : decode cX1_prepare 13 = .ok (.iconst 0, 1) := by decide +kernel
theorem dX1_prepare_14 : decode cX1_prepare 14 = .ok (.istore_n 2, 1) := by decide +kernel
theorem dX1_prepare_15 : decode cX1_prepare 15 = .ok (.iload_n 2, 1) := by decide +kernel
theorem dX1_prepare_16 : decode cX1_prepare 16 = .ok (.bipush 40, 2) := by decide +kernel
theorem dX1_prepare_18 : decode cX1_prepare 18 = .ok (.if_icmp .ge 47, 3) := by decide +kernel
theorem dX1_prepare_21 : decode cX1_prepare 21 = .ok (.aload_n 0, 1) := by decide +kernel
theorem dX1_prepare_22 : decode cX1_prepare 22 = .ok (.getfield 11, 3) := by decide +kernel
theorem dX1_prepare_25 : decode cX1_prepare 25 = .ok (.aload_n 0, 1) := by decide +kernel
theorem dX1_prepare_26 : decode cX1_prepare 26 = .ok (.getfield 22, 3) := by decide +kernel
theorem dX1_prepare_29 : decode cX1_prepare 29 = .ok (.iload_n 2, 1) := by decide +kernel
theorem dX1_prepare_30 : decode cX1_prepare 30 = .ok (.iadd, 1) := by decide +kernel
theorem dX1_prepare_31 : decode cX1_prepare 31 = .ok (.iconst (-1), 1) := by decide +kernel
theorem dX1_prepare_32 : decode cX1_prepare 32 = .ok (.iastore, 1) := by decide +kernel
theorem dX1_prepare_33 : decode cX1_prepare 33 = .ok (.aload_n 0, 1) := by decide +kernel
theorem dX1_prepare_34 : decode cX1_prepare 34 = .ok (.getfield 15, 3) := by decide +kernel
theorem dX1_prepare_37 : decode cX1_prepare 37 = .ok (.aload_n 0, 1) := by decide +kernel
theorem dX1_prepare_38 : decode cX1_prepare 38 = .ok (.getfield 22, 3) := by decide +kernel
theorem dX1_prepare_41 : decode cX1_prepare 41 = .ok (.iload_n 2, 1) := by decide +kernel
theorem dX1_prepare_42 : decode cX1_prepare 42 = .ok (.iadd, 1) := by decide +kernel
theorem dX1_prepare_43 : decode cX1_prepare 43 = .ok (.iconst (-1), 1) := by decide +kernel
theorem dX1_prepare_44 : decode cX1_prepare 44 = .ok (.iastore, 1) := by decide +kernel
theorem dX1_prepare_45 : decode cX1_prepare 45 = .ok (.aload_n 0, 1) := by decide +kernel
theorem dX1_prepare_46 : decode cX1_prepare 46 = .ok (.getfield 47, 3) := by decide +kernel
theorem dX1_prepare_49 : decode cX1_prepare 49 = .ok (.iload_n 2, 1) := by decide +kernel
theorem dX1_prepare_50 : decode cX1_prepare 50 = .ok (.iconst (-1), 1) := by decide +kernel
theorem dX1_prepare_51 : decode cX1_prepare 51 = .ok (.iastore, 1) := by decide +kernel
theorem dX1_prepare_52 : decode cX1_prepare 52 = .ok (.aload_n 0, 1) := by decide +kernel
theorem dX1_prepare_53 : decode cX1_prepare 53 = .ok (.getfield 50, 3) := by decide +kernel
theorem dX1_prepare_56 : decode cX1_prepare 56 = .ok (.iload_n 2, 1) := by decide +kernel
theorem dX1_prepare_57 : decode cX1_prepare 57 = .ok (.iconst 0, 1) := by decide +kernel
theorem dX1_prepare_58 : decode cX1_prepare 58 = .ok (.iastore, 1) := by decide +kernel
theorem dX1_prepare_59 : decode cX1_prepare 59 = .ok (.iinc 2 1, 3) := by decide +kernel
theorem dX1_prepare_62 : decode cX1_prepare 62 = .ok (.goto (-47), 3) := by decide +kernel
theorem dX1_prepare_65 : decode cX1_prepare 65 = .ok (.iconst 0, 1) := by decide +kernel
theorem dX1_prepare_66 : decode cX1_prepare 66 = .ok (.istore_n 2, 1) := by decide +kernel
theorem dX1_prepare_67 : decode cX1_prepare 67 = .ok (.iload_n 2, 1) := by decide +kernel
theorem dX1_prepare_68 : decode cX1_prepare 68 = .ok (.bipush 10, 2) := by decide +kernel
theorem dX1_prepare_70 : decode cX1_prepare 70 = .ok (.if_icmp .ge 30, 3) := by decide +kernel
theorem dX1_prepare_73 : decode cX1_prepare 73 = .ok (.aload_n 0, 1) := by decide +kernel
theorem dX1_prepare_74 : decode cX1_prepare 74 = .ok (.getfield 32, 3) := by decide +kernel
theorem dX1_prepare_77 : decode cX1_prepare 77 = .ok (.iload_n 2, 1) := by decide +kernel
theorem dX1_prepare_78 : decode cX1_prepare 78 = .ok (.aload_n 0, 1) := by decide +kernel
theorem dX1_prepare_79 : decode cX1_prepare 79 = .ok (.getfield 68, 3) := by decide +kernel
theorem dX1_prepare_82 : decode cX1_prepare 82 = .ok (.iload_n 2, 1) := by decide +kernel
theorem dX1_prepare_83 : decode cX1_prepare 83 = .ok (.invokevirtual 97, 3) := by decide +kernel
theorem dX1_prepare_86 : decode cX1_prepare 86 = .ok (.iastore, 1) := by decide +kernel
theorem dX1_prepare_87 : decode cX1_prepare 87 = .ok (.aload_n 0, 1) := by decide +kernel
theorem dX1_prepare_88 : decode cX1_prepare 88 = .ok (.getfield 35, 3) := by decide +kernel
theorem dX1_prepare_91 : decode cX1_prepare 91 = .ok (.iload_n 2, 1) := by decide +kernel
theorem dX1_prepare_92 : decode cX1_prepare 92 = .ok (.iconst 0, 1) := by decide +kernel
theorem dX1_prepare_93 : decode cX1_prepare 93 = .ok (.iastore, 1) := by decide +kernel
theorem dX1_prepare_94 : decode cX1_prepare 94 = .ok (.iinc 2 1, 3) := by decide +kernel
theorem dX1_prepare_97 : decode cX1_prepare 97 = .ok (.goto (-30), 3) := by decide +kernel
theorem dX1_prepare_100 : decode cX1_prepare 100 = .ok (.iconst 0, 1) := by decide +kernel
theorem dX1_prepare_101 : decode cX1_prepare 101 = .ok (.istore_n 2, 1) := by decide +kernel
theorem dX1_prepare_102 : decode cX1_prepare 102 = .ok (.iload_n 2, 1) := by decide +kernel
theorem dX1_prepare_103 : decode cX1_prepare 103 = .ok (.bipush 15, 2) := by decide +kernel
theorem dX1_prepare_105 : decode cX1_prepare 105 = .ok (.if_icmp .ge 48, 3) := by decide +kernel
theorem dX1_prepare_108 : decode cX1_prepare 108 = .ok (.aload_n 0, 1) := by decide +kernel
theorem dX1_prepare_109 : decode cX1_prepare 109 = .ok (.getfield 38, 3) := by decide +kernel
theorem dX1_prepare_112 : decode cX1_prepare 112 = .ok (.iload_n 2, 1) := by decide +kernel
theorem dX1_prepare_113 : decode cX1_prepare 113 = .ok (.iconst 0, 1) := by decide +kernel
theorem dX1_prepare_114 : decode cX1_prepare 114 = .ok (.iastore, 1) := by decide +kernel
theorem dX1_prepare_115 : decode cX1_prepare 115 = .ok (.aload_n 0, 1) := by decide +kernel
theorem dX1_prepare_116 : decode cX1_prepare 116 = .ok (.getfield 41, 3) := by decide +kernel
theorem dX1_prepare_119 : decode cX1_prepare 119 = .ok (.iload_n 2, 1) := by decide +kernel
theorem dX1_prepare_120 : decode cX1_prepare 120 = .ok (.iconst (-1), 1) := by decide +kernel
theorem dX1_prepare_121 : decode cX1_prepare 121 = .ok (.iastore, 1) := by decide +kernel
theorem dX1_prepare_122 : decode cX1_prepare 122 = .ok (.aload_n 0, 1) := by decide +kernel
theorem dX1_prepare_123 : decode cX1_prepare 123 = .ok (.getfield 53, 3) := by decide +kernel
theorem dX1_prepare_126 : decode cX1_prepare 126 = .ok (.iload_n 2, 1) := by decide +kernel
theorem dX1_prepare_127 : decode cX1_prepare 127 = .ok (.aload_n 0, 1) := by decide +kernel
theorem dX1_prepare_128 : decode cX1_prepare 128 = .ok (.getfield 64, 3) := by decide +kernel
theorem dX1_prepare_131 : decode cX1_prepare 131 = .ok (.iload_n 2, 1) := by decide +kernel
theorem dX1_prepare_132 : decode cX1_prepare 132 = .ok (.invokevirtual 103, 3) := by decide +kernel
theorem dX1_prepare_135 : decode cX1_prepare 135 = .ok (.invokestatic 108, 3) := by decide +kernel
theorem dX1_prepare_138 : decode cX1_prepare 138 = .ok (.aload_n 0, 1) := by decide +kernel
theorem dX1_prepare_139 : decode cX1_prepare 139 = .ok (.getfield 56, 3) := by decide +kernel
theorem dX1_prepare_142 : decode cX1_prepare 142 = .ok (.invokevirtual 111, 3) := by decide +kernel
theorem dX1_prepare_145 : decode cX1_prepare 145 = .ok (.imul, 1) := by decide +kernel
theorem dX1_prepare_146 : decode cX1_prepare 146 = .ok (.iastore, 1) := by decide +kernel
theorem dX1_prepare_147 : decode cX1_prepare 147 = .ok (.iinc 2 1, 3) := by decide +kernel
theorem dX1_prepare_150 : decode cX1_prepare 150 = .ok (.goto (-48), 3) := by decide +kernel
theorem dX1_prepare_153 : decode cX1_prepare 153 = .ok (.iconst 0, 1) := by decide +kernel
theorem dX1_prepare_154 : decode cX1_prepare 154 = .ok (.istore_n 2, 1) := by decide +kernel
theorem dX1_prepare_155 : decode cX1_prepare 155 = .ok (.iload_n 2, 1) := by decide +kernel
theorem dX1_prepare_156 : decode cX1_prepare 156 = .ok (.iconst 4, 1) := by decide +kernel
theorem dX1_prepare_157 : decode cX1_prepare 157 = .ok (.if_icmp .ge 16, 3) := by decide +kernel
theorem dX1_prepare_160 : decode cX1_prepare 160 = .ok (.aload_n 0, 1) := by decide +kernel
theorem dX1_prepare_161 : decode cX1_prepare 161 = .ok (.getfield 44, 3) := by decide +kernel
theorem dX1_prepare_164 : decode cX1_prepare 164 = .ok (.iload_n 2, 1) := by decide +kernel
theorem dX1_prepare_165 : decode cX1_prepare 165 = .ok (.iconst 0, 1) := by decide +kernel
theorem dX1_prepare_166 : decode cX1_prepare 166 = .ok (.iastore, 1) := by decide +kernel
theorem dX1_prepare_167 : decode cX1_prepare 167 = .ok (.iinc 2 1, 3) := by decide +kernel
theorem dX1_prepare_170 : decode cX1_prepare 170 = .ok (.goto (-15), 3) := by decide +kernel
theorem dX1_prepare_173 : decode cX1_prepare 173 = .ok (.aload_n 0, 1) := by decide +kernel
theorem dX1_prepare_174 : decode cX1_prepare 174 = .ok (.getfield 72, 3) := by decide +kernel
theorem dX1_prepare_177 : decode cX1_prepare 177 = .ok (.iconst 0, 1) := by decide +kernel
theorem dX1_prepare_178 : decode cX1_prepare 178 = .ok (.aload_n 0, 1) := by decide +kernel
theorem dX1_prepare_179 : decode cX1_prepare 179 = .ok (.getfield 26, 3) := by decide +kernel
theorem dX1_prepare_182 : decode cX1_prepare 182 = .ok (.aload_n 0, 1) := by decide +kernel
theorem dX1_prepare_183 : decode cX1_prepare 183 = .ok (.getfield 47, 3) := by decide +kernel
theorem dX1_prepare_186 : decode cX1_prepare 186 = .ok (.invokevirtual 117, 3) := by decide +kernel
theorem dX1_prepare_189 : decode cX1_prepare 189 = .ok (.aload_n 0, 1) := by decide +kernel
theorem dX1_prepare_190 : decode cX1_prepare 190 = .ok (.getfield 72, 3) := by decide +kernel
theorem dX1_prepare_193 : decode cX1_prepare 193 = .ok (.iconst 1, 1) := by decide +kernel
theorem dX1_prepare_194 : decode cX1_prepare 194 = .ok (.aload_n 0, 1) := by decide +kernel
theorem dX1_prepare_195 : decode cX1_prepare 195 = .ok (.getfield 26, 3) := by decide +kernel
theorem dX1_prepare_198 : decode cX1_prepare 198 = .ok (.aload_n 0, 1) := by decide +kernel
theorem dX1_prepare_199 : decode cX1_prepare 199 = .ok (.getfield 50, 3) := by decide +kernel
theorem dX1_prepare_202 : decode cX1_prepare 202 = .ok (.invokevirtual 117, 3) := by decide +kernel
theorem dX1_prepare_205 : decode cX1_prepare 205 = .ok (.aload_n 0, 1) := by decide +kernel
theorem dX1_prepare_206 : decode cX1_prepare 206 = .ok (.getfield 72, 3) := by decide +kernel
theorem dX1_prepare_209 : decode cX1_prepare 209 = .ok (.iconst 2, 1) := by decide +kernel
theorem dX1_prepare_210 : decode cX1_prepare 210 = .ok (.aload_n 0, 1) := by decide +kernel
theorem dX1_prepare_211 : decode cX1_prepare 211 = .ok (.getfield 26, 3) := by decide +kernel
theorem dX1_prepare_214 : decode cX1_prepare 214 = .ok (.aload_n 0, 1) := by decide +kernel
theorem dX1_prepare_215 : decode cX1_prepare 215 = .ok (.getfield 53, 3) := by decide +kernel
theorem dX1_prepare_218 : decode cX1_prepare 218 = .ok (.invokevirtual 117, 3) := by decide +kernel
theorem dX1_prepare_221 : decode cX1_prepare 221 = .ok (.return_, 1) := by decide +kernel
noncomputable def tX1_prepare_10 (j43 : qT (Unit × qM)) (j10 : qT (Unit × qM)) : qT (Unit × qM) :=
  oLi 2 (oC (.int (40 : Int32)) (oCGe (oC (.int (0 : Int32)) (oSi 2 (j43))) (oLa 0 (oGf 80 5 81 (oLa 0 (oGi 80 8 (oLi 2 (o2 (· + ·) (oC (.int (-1 : Int32)) (oWi 81 3240 (oLa 0 (oGf 80 6 82 (oLa 0 (oGi 80 8 (oLi 2 (o2 (· + ·) (oC (.int (-1 : Int32)) (oWi 82 3240 (oLa 0 (oGf 80 16 90 (oLi 2 (oC (.int (-1 : Int32)) (oWi 90 40 (oLa 0 (oGf 80 17 91 (oLi 2 (oC (.int (0 : Int32)) (oWi 91 40 (oInc 2 (1 : Int32) (j10))))))))))))))))))))))))))))))
noncomputable def wX1_prepare_10 (k : Int32 → qM → Option (Unit × qM)) : qT (Unit × qM) := fun lo st m => match lo, st with
  | [some (.ref 80), _, some (.int a2)], [] => k a2 m
  | _, _ => none
noncomputable def wX1_prepare_43 (k : Int32 → qM → Option (Unit × qM)) : qT (Unit × qM) := fun lo st m => match lo, st with
  | [some (.ref 80), _, some (.int a2)], [] => k a2 m
  | _, _ => none
set_option maxRecDepth 20000 in
theorem sX1_prepare_10 {C : qCx} {w : qWp} (h : qOk C w RX1 cX1_prepare 3 2 155 155) (hm : qMt C none) (hx : qNx C) {j43 : qT (Unit × qM)} {j10 : qT (Unit × qM)} (k43 : qSnd C w 3 155 (qQf C w 155 155 jV) qfin 155 67 j43) (k10 : qSnd C w 3 155 (qQf C w 155 155 jV) qfin 155 15 j10) : qSnd C w 3 155 (qQf C w 155 155 jV) qfin 155 15 (tX1_prepare_10 j43 j10) :=
  cLi (pc := 15) h dX1_prepare_15 rfl (cB (pc := 16) h dX1_prepare_16 rfl (jCGe (pc := 18) h dX1_prepare_18 rfl (cC (pc := 65) h dX1_prepare_65 rfl (cSi (pc := 66) h dX1_prepare_66 rfl (k43))) (cLa (pc := 21) h dX1_prepare_21 rfl (gGf (pc := 22) h dX1_prepare_22 ff_X1_11_80 (Nat.le_of_ble_eq_true rfl) (Nat.le_of_ble_eq_true rfl) rfl (cLa (pc := 25) h dX1_prepare_25 rfl (gGi (pc := 26) h dX1_prepare_26 ff_X1_22_80 (Nat.le_of_ble_eq_true rfl) (Nat.le_of_ble_eq_true rfl) (cLi (pc := 29) h dX1_prepare_29 rfl (aAdd (pc := 30) h dX1_prepare_30 (cC (pc := 31) h dX1_prepare_31 rfl (rWi (pc := 32) h dX1_prepare_32 rfl (Nat.le_of_ble_eq_true rfl) (Nat.le_of_ble_eq_true rfl) (cLa (pc := 33) h dX1_prepare_33 rfl (gGf (pc := 34) h dX1_prepare_34 ff_X1_15_80 (Nat.le_of_ble_eq_true rfl) (Nat.le_of_ble_eq_true rfl) rfl (cLa (pc := 37) h dX1_prepare_37 rfl (gGi (pc := 38) h dX1_prepare_38 ff_X1_22_80 (Nat.le_of_ble_eq_true rfl) (Nat.le_of_ble_eq_true rfl) (cLi (pc := 41) h dX1_prepare_41 rfl (aAdd (pc := 42) h dX1_prepare_42 (cC (pc := 43) h dX1_prepare_43 rfl (rWi (pc := 44) h dX1_prepare_44 rfl (Nat.le_of_ble_eq_true rfl) (Nat.le_of_ble_eq_true rfl) (cLa (pc := 45) h dX1_prepare_45 rfl (gGf (pc := 46) h dX1_prepare_46 ff_X1_47_80 (Nat.le_of_ble_eq_true rfl) (Nat.le_of_ble_eq_true rfl) rfl (cLi (pc := 49) h dX1_prepare_49 rfl (cC (pc := 50) h dX1_prepare_50 rfl (rWi (pc := 51) h dX1_prepare_51 rfl (Nat.le_of_ble_eq_true rfl) (Nat.le_of_ble_eq_true rfl) (cLa (pc := 52) h dX1_prepare_52 rfl (gGf (pc := 53) h dX1_prepare_53 ff_X1_50_80 (Nat.le_of_ble_eq_true rfl) (Nat.le_of_ble_eq_true rfl) rfl (cLi (pc := 56) h dX1_prepare_56 rfl (cC (pc := 57) h dX1_prepare_57 rfl (rWi (pc := 58) h dX1_prepare_58 rfl (Nat.le_of_ble_eq_true rfl) (Nat.le_of_ble_eq_true rfl) (cInc (pc := 59) h dX1_prepare_59 rfl (jGo (pc := 62) h dX1_prepare_62 rfl (k10)))))))))))))))))))))))))))))))
set_option maxRecDepth 20000 in
theorem lX1_prepare_10 (k43 : Int32 → qM → Option (Unit × qM)) (n : Nat) (a2 : Int32) (m : qM) : tX1_prepare_10 (wX1_prepare_43 k43) (wX1_prepare_10 ((fX1_prepare_10 k43 n))) [some (.ref 80), none, some (.int a2)] [] m = fX1_prepare_10 k43 (n + 1) a2 m := rfl
theorem bX1_prepare_10 {C : qCx} {w : qWp} (h : qOk C w RX1 cX1_prepare 3 2 155 155) (hm : qMt C none) (hx : qNx C) {k43 : Int32 → qM → Option (Unit × qM)} (h43 : qSnd C w 3 155 (qQf C w 155 155 jV) qfin 155 67 (wX1_prepare_43 k43)) : ∀ n : Nat, qSnd C w 3 155 (qQf C w 155 155 jV) qfin 155 15 (wX1_prepare_10 (fX1_prepare_10 k43 n))
  | 0 => qSnd_of0 (fun lo st m x hr0 => by
    unfold wX1_prepare_10 at hr0
    split at hr0
    · cases hr0
    · cases hr0)
  | n + 1 => by
    have ih := bX1_prepare_10 h hm hx h43 n
    exact qSnd_of (fun lo st m x hr0 => by
    unfold wX1_prepare_10 at hr0
    split at hr0
    · exact ⟨_, (qsub_e (qsub_n (qsub_e qsub_nil))), (lX1_prepare_10 _ n _ _).trans hr0⟩
    · cases hr0) (sX1_prepare_10 h hm hx h43 ih)
noncomputable def tX1_prepare_43 (j63 : qT (Unit × qM)) (j43 : qT (Unit × qM)) : qT (Unit × qM) :=
  oLi 2 (oC (.int (10 : Int32)) (oCGe (oC (.int (0 : Int32)) (oSi 2 (j63))) (oLa 0 (oGf 80 11 85 (oLi 2 (oLa 0 (oGf 80 3 58 (oLi 2 (oCi GX4_laidOfTeacher 2 (oWi 85 10 (oLa 0 (oGf 80 12 86 (oLi 2 (oC (.int (0 : Int32)) (oWi 86 10 (oInc 2 (1 : Int32) (j43)))))))))))))))))
noncomputable def wX1_prepare_63 (k : Int32 → qM → Option (Unit × qM)) : qT (Unit × qM) := fun lo st m => match lo, st with
  | [some (.ref 80), _, some (.int a2)], [] => k a2 m
  | _, _ => none
set_option maxRecDepth 20000 in
theorem sX1_prepare_43 {C : qCx} {w : qWp} (h : qOk C w RX1 cX1_prepare 3 2 155 155) (hm : qMt C none) (hx : qNx C) {j63 : qT (Unit × qM)} {j43 : qT (Unit × qM)} (k63 : qSnd C w 3 155 (qQf C w 155 155 jV) qfin 155 102 j63) (k43 : qSnd C w 3 155 (qQf C w 155 155 jV) qfin 155 67 j43) : qSnd C w 3 155 (qQf C w 155 155 jV) qfin 155 67 (tX1_prepare_43 j63 j43) :=
  cLi (pc := 67) h dX1_prepare_67 rfl (cB (pc := 68) h dX1_prepare_68 rfl (jCGe (pc := 70) h dX1_prepare_70 rfl (cC (pc := 100) h dX1_prepare_100 rfl (cSi (pc := 101) h dX1_prepare_101 rfl (k63))) (cLa (pc := 73) h dX1_prepare_73 rfl (gGf (pc := 74) h dX1_prepare_74 ff_X1_32_80 (Nat.le_of_ble_eq_true rfl) (Nat.le_of_ble_eq_true rfl) rfl (cLi (pc := 77) h dX1_prepare_77 rfl (cLa (pc := 78) h dX1_prepare_78 rfl (gGf (pc := 79) h dX1_prepare_79 ff_X1_68_80 (Nat.le_of_ble_eq_true rfl) (Nat.le_of_ble_eq_true rfl) rfl (cLi (pc := 82) h dX1_prepare_82 rfl (kCi (pc := 83) h (kd_X1_97 h dX1_prepare_83) spX4_laidOfTeacher (by decide) (by decide) (by decide) (by decide) (rWi (pc := 86) h dX1_prepare_86 rfl (Nat.le_of_ble_eq_true rfl) (Nat.le_of_ble_eq_true rfl) (cLa (pc := 87) h dX1_prepare_87 rfl (gGf (pc := 88) h dX1_prepare_88 ff_X1_35_80 (Nat.le_of_ble_eq_true rfl) (Nat.le_of_ble_eq_true rfl) rfl (cLi (pc := 91) h dX1_prepare_91 rfl (cC (pc := 92) h dX1_prepare_92 rfl (rWi (pc := 93) h dX1_prepare_93 rfl (Nat.le_of_ble_eq_true rfl) (Nat.le_of_ble_eq_true rfl) (cInc (pc := 94) h dX1_prepare_94 rfl (jGo (pc := 97) h dX1_prepare_97 rfl (k43))))))))))))))))))
set_option maxRecDepth 20000 in
theorem lX1_prepare_43 (k63 : Int32 → qM → Option (Unit × qM)) (n : Nat) (a2 : Int32) (m : qM) : tX1_prepare_43 (wX1_prepare_63 k63) (wX1_prepare_43 ((fX1_prepare_43 k63 n))) [some (.ref 80), none, some (.int a2)] [] m = fX1_prepare_43 k63 (n + 1) a2 m := rfl
theorem bX1_prepare_43 {C : qCx} {w : qWp} (h : qOk C w RX1 cX1_prepare 3 2 155 155) (hm : qMt C none) (hx : qNx C) {k63 : Int32 → qM → Option (Unit × qM)} (h63 : qSnd C w 3 155 (qQf C w 155 155 jV) qfin 155 102 (wX1_prepare_63 k63)) : ∀ n : Nat, qSnd C w 3 155 (qQf C w 155 155 jV) qfin 155 67 (wX1_prepare_43 (fX1_prepare_43 k63 n))
  | 0 => qSnd_of0 (fun lo st m x hr0 => by
    unfold wX1_prepare_43 at hr0
    split at hr0
    · cases hr0
    · cases hr0)
  | n + 1 => by
    have ih := bX1_prepare_43 h hm hx h63 n
    exact qSnd_of (fun lo st m x hr0 => by
    unfold wX1_prepare_43 at hr0
    split at hr0
    · exact ⟨_, (qsub_e (qsub_n (qsub_e qsub_nil))), (lX1_prepare_43 _ n _ _).trans hr0⟩
    · cases hr0) (sX1_prepare_43 h hm hx h63 ih)
noncomputable def tX1_prepare_63 (j93 : qT (Unit × qM)) (j63 : qT (Unit × qM)) : qT (Unit × qM) :=
  oLi 2 (oC (.int (15 : Int32)) (oCGe (oC (.int (0 : Int32)) (oSi 2 (j93))) (oLa 0 (oGf 80 13 87 (oLi 2 (oC (.int (0 : Int32)) (oWi 87 15 (oLa 0 (oGf 80 14 88 (oLi 2 (oC (.int (-1 : Int32)) (oWi 88 15 (oLa 0 (oGf 80 18 92 (oLi 2 (oLa 0 (oGf 80 2 47 (oLi 2 (oCi GX3_familySlots 2 (oCi GX11_leastOf 1 (oLa 0 (oGf 80 0 4 (oCi GX7_slotMinutes 1 (o2 (· * ·) (oWi 92 15 (oInc 2 (1 : Int32) (j63)))))))))))))))))))))))))))
noncomputable def wX1_prepare_93 (k : Int32 → qM → Option (Unit × qM)) : qT (Unit × qM) := fun lo st m => match lo, st with
  | [some (.ref 80), _, some (.int a2)], [] => k a2 m
  | _, _ => none
set_option maxRecDepth 20000 in
theorem sX1_prepare_63 {C : qCx} {w : qWp} (h : qOk C w RX1 cX1_prepare 3 2 155 155) (hm : qMt C none) (hx : qNx C) {j93 : qT (Unit × qM)} {j63 : qT (Unit × qM)} (k93 : qSnd C w 3 155 (qQf C w 155 155 jV) qfin 155 155 j93) (k63 : qSnd C w 3 155 (qQf C w 155 155 jV) qfin 155 102 j63) : qSnd C w 3 155 (qQf C w 155 155 jV) qfin 155 102 (tX1_prepare_63 j93 j63) :=
  cLi (pc := 102) h dX1_prepare_102 rfl (cB (pc := 103) h dX1_prepare_103 rfl (jCGe (pc := 105) h dX1_prepare_105 rfl (cC (pc := 153) h dX1_prepare_153 rfl (cSi (pc := 154) h dX1_prepare_154 rfl (k93))) (cLa (pc := 108) h dX1_prepare_108 rfl (gGf (pc := 109) h dX1_prepare_109 ff_X1_38_80 (Nat.le_of_ble_eq_true rfl) (Nat.le_of_ble_eq_true rfl) rfl (cLi (pc := 112) h dX1_prepare_112 rfl (cC (pc := 113) h dX1_prepare_113 rfl (rWi (pc := 114) h dX1_prepare_114 rfl (Nat.le_of_ble_eq_true rfl) (Nat.le_of_ble_eq_true rfl) (cLa (pc := 115) h dX1_prepare_115 rfl (gGf (pc := 116) h dX1_prepare_116 ff_X1_41_80 (Nat.le_of_ble_eq_true rfl) (Nat.le_of_ble_eq_true rfl) rfl (cLi (pc := 119) h dX1_prepare_119 rfl (cC (pc := 120) h dX1_prepare_120 rfl (rWi (pc := 121) h dX1_prepare_121 rfl (Nat.le_of_ble_eq_true rfl) (Nat.le_of_ble_eq_true rfl) (cLa (pc := 122) h dX1_prepare_122 rfl (gGf (pc := 123) h dX1_prepare_123 ff_X1_53_80 (Nat.le_of_ble_eq_true rfl) (Nat.le_of_ble_eq_true rfl) rfl (cLi (pc := 126) h dX1_prepare_126 rfl (cLa (pc := 127) h dX1_prepare_127 rfl (gGf (pc := 128) h dX1_prepare_128 ff_X1_64_80 (Nat.le_of_ble_eq_true rfl) (Nat.le_of_ble_eq_true rfl) rfl (cLi (pc := 131) h dX1_prepare_131 rfl (kCi (pc := 132) h (kd_X1_103 h dX1_prepare_132) spX3_familySlots (by decide) (by decide) (by decide) (by decide) (kCi (pc := 135) h (kd_X1_108 h dX1_prepare_135) spX11_leastOf (by decide) (by decide) (by decide) (by decide) (cLa (pc := 138) h dX1_prepare_138 rfl (gGf (pc := 139) h dX1_prepare_139 ff_X1_56_80 (Nat.le_of_ble_eq_true rfl) (Nat.le_of_ble_eq_true rfl) rfl (kCi (pc := 142) h (kd_X1_111 h dX1_prepare_142) spX7_slotMinutes (by decide) (by decide) (by decide) (by decide) (aMul (pc := 145) h dX1_prepare_145 (rWi (pc := 146) h dX1_prepare_146 rfl (Nat.le_of_ble_eq_true rfl) (Nat.le_of_ble_eq_true rfl) (cInc (pc := 147) h dX1_prepare_147 rfl (jGo (pc := 150) h dX1_prepare_150 rfl (k63))))))))))))))))))))))))))))
set_option maxRecDepth 20000 in
theorem lX1_prepare_63 (k93 : Int32 → qM → Option (Unit × qM)) (n : Nat) (a2 : Int32) (m : qM) : tX1_prepare_63 (wX1_prepare_93 k93) (wX1_prepare_63 ((fX1_prepare_63 k93 n))) [some (.ref 80), none, some (.int a2)] [] m = fX1_prepare_63 k93 (n + 1) a2 m := rfl
theorem bX1_prepare_63 {C : qCx} {w : qWp} (h : qOk C w RX1 cX1_prepare 3 2 155 155) (hm : qMt C none) (hx : qNx C) {k93 : Int32 → qM → Option (Unit × qM)} (h93 : qSnd C w 3 155 (qQf C w 155 155 jV) qfin 155 155 (wX1_prepare_93 k93)) : ∀ n : Nat, qSnd C w 3 155 (qQf C w 155 155 jV) qfin 155 102 (wX1_prepare_63 (fX1_prepare_63 k93 n))
  | 0 => qSnd_of0 (fun lo st m x hr0 => by
    unfold wX1_prepare_63 at hr0
    split at hr0
    · cases hr0
    · cases hr0)
  | n + 1 => by
    have ih := bX1_prepare_63 h hm hx h93 n
    exact qSnd_of (fun lo st m x hr0 => by
    unfold wX1_prepare_63 at hr0
    split at hr0
    · exact ⟨_, (qsub_e (qsub_n (qsub_e qsub_nil))), (lX1_prepare_63 _ n _ _).trans hr0⟩
    · cases hr0) (sX1_prepare_63 h hm hx h93 ih)
noncomputable def tX1_prepare_93 (j93 : qT (Unit × qM)) : qT (Unit × qM) :=
  oLi 2 (oC (.int (4 : Int32)) (oCGe (oLa 0 (oGf 80 4 74 (oC (.int (0 : Int32)) (oLa 0 (oGi 80 9 (oLa 0 (oGf 80 16 90 (oCv GX9_fill_90 4 (oLa 0 (oGf 80 4 74 (oC (.int (1 : Int32)) (oLa 0 (oGi 80 9 (oLa 0 (oGf 80 17 91 (oCv GX9_fill_91 4 (oLa 0 (oGf 80 4 74 (oC (.int (2 : Int32)) (oLa 0 (oGi 80 9 (oLa 0 (oGf 80 18 92 (oCv GX9_fill_92 4 (eV))))))))))))))))))))))))) (oLa 0 (oGf 80 15 89 (oLi 2 (oC (.int (0 : Int32)) (oWi 89 4 (oInc 2 (1 : Int32) (j93)))))))))
set_option maxRecDepth 20000 in
theorem sX1_prepare_93 {C : qCx} {w : qWp} (h : qOk C w RX1 cX1_prepare 3 2 155 155) (hm : qMt C none) (hx : qNx C) {j93 : qT (Unit × qM)} (k93 : qSnd C w 3 155 (qQf C w 155 155 jV) qfin 155 155 j93) : qSnd C w 3 155 (qQf C w 155 155 jV) qfin 155 155 (tX1_prepare_93 j93) :=
  cLi (pc := 155) h dX1_prepare_155 rfl (cC (pc := 156) h dX1_prepare_156 rfl (jCGe (pc := 157) h dX1_prepare_157 rfl (cLa (pc := 173) h dX1_prepare_173 rfl (gGf (pc := 174) h dX1_prepare_174 ff_X1_72_80 (Nat.le_of_ble_eq_true rfl) (Nat.le_of_ble_eq_true rfl) rfl (cC (pc := 177) h dX1_prepare_177 rfl (cLa (pc := 178) h dX1_prepare_178 rfl (gGi (pc := 179) h dX1_prepare_179 ff_X1_26_80 (Nat.le_of_ble_eq_true rfl) (Nat.le_of_ble_eq_true rfl) (cLa (pc := 182) h dX1_prepare_182 rfl (gGf (pc := 183) h dX1_prepare_183 ff_X1_47_80 (Nat.le_of_ble_eq_true rfl) (Nat.le_of_ble_eq_true rfl) rfl (kCv (pc := 186) h (kd_X1_117 h dX1_prepare_186) spX9_fill_90 (by decide) (by decide) (by decide) (by decide) (cLa (pc := 189) h dX1_prepare_189 rfl (gGf (pc := 190) h dX1_prepare_190 ff_X1_72_80 (Nat.le_of_ble_eq_true rfl) (Nat.le_of_ble_eq_true rfl) rfl (cC (pc := 193) h dX1_prepare_193 rfl (cLa (pc := 194) h dX1_prepare_194 rfl (gGi (pc := 195) h dX1_prepare_195 ff_X1_26_80 (Nat.le_of_ble_eq_true rfl) (Nat.le_of_ble_eq_true rfl) (cLa (pc := 198) h dX1_prepare_198 rfl (gGf (pc := 199) h dX1_prepare_199 ff_X1_50_80 (Nat.le_of_ble_eq_true rfl) (Nat.le_of_ble_eq_true rfl) rfl (kCv (pc := 202) h (kd_X1_117 h dX1_prepare_202) spX9_fill_91 (by decide) (by decide) (by decide) (by decide) (cLa (pc := 205) h dX1_prepare_205 rfl (gGf (pc := 206) h dX1_prepare_206 ff_X1_72_80 (Nat.le_of_ble_eq_true rfl) (Nat.le_of_ble_eq_true rfl) rfl (cC (pc := 209) h dX1_prepare_209 rfl (cLa (pc := 210) h dX1_prepare_210 rfl (gGi (pc := 211) h dX1_prepare_211 ff_X1_26_80 (Nat.le_of_ble_eq_true rfl) (Nat.le_of_ble_eq_true rfl) (cLa (pc := 214) h dX1_prepare_214 rfl (gGf (pc := 215) h dX1_prepare_215 ff_X1_53_80 (Nat.le_of_ble_eq_true rfl) (Nat.le_of_ble_eq_true rfl) rfl (kCv (pc := 218) h (kd_X1_117 h dX1_prepare_218) spX9_fill_92 (by decide) (by decide) (by decide) (by decide) (zV (pc := 221) h hm (Nat.le_refl _) dX1_prepare_221))))))))))))))))))))))))) (cLa (pc := 160) h dX1_prepare_160 rfl (gGf (pc := 161) h dX1_prepare_161 ff_X1_44_80 (Nat.le_of_ble_eq_true rfl) (Nat.le_of_ble_eq_true rfl) rfl (cLi (pc := 164) h dX1_prepare_164 rfl (cC (pc := 165) h dX1_prepare_165 rfl (rWi (pc := 166) h dX1_prepare_166 rfl (Nat.le_of_ble_eq_true rfl) (Nat.le_of_ble_eq_true rfl) (cInc (pc := 167) h dX1_prepare_167 rfl (jGo (pc := 170) h dX1_prepare_170 rfl (k93))))))))))
set_option maxRecDepth 20000 in
theorem lX1_prepare_93 (n : Nat) (a2 : Int32) (m : qM) : tX1_prepare_93 (wX1_prepare_93 ((fX1_prepare_93 n))) [some (.ref 80), none, some (.int a2)] [] m = fX1_prepare_93 (n + 1) a2 m := rfl
theorem bX1_prepare_93 {C : qCx} {w : qWp} (h : qOk C w RX1 cX1_prepare 3 2 155 155) (hm : qMt C none) (hx : qNx C) : ∀ n : Nat, qSnd C w 3 155 (qQf C w 155 155 jV) qfin 155 155 (wX1_prepare_93 (fX1_prepare_93 n))
  | 0 => qSnd_of0 (fun lo st m x hr0 => by
    unfold wX1_prepare_93 at hr0
    split at hr0
    · cases hr0
    · cases hr0)
  | n + 1 => by
    have ih := bX1_prepare_93 h hm hx n
    exact qSnd_of (fun lo st m x hr0 => by
    unfold wX1_prepare_93 at hr0
    split at hr0
    · exact ⟨_, (qsub_e (qsub_n (qsub_e qsub_nil))), (lX1_prepare_93 n _ _).trans hr0⟩
    · cases hr0) (sX1_prepare_93 h hm hx ih)
noncomputable def tX1_prepare_0 (j10 : qT (Unit × qM)) : qT (Unit × qM) :=
  oLa 0 (oLi 1 (oPi 80 9 (oLa 0 (oLi 1 (oC (.int (40 : Int32)) (o2 (· * ·) (oPi 80 8 (oC (.int (0 : Int32)) (oSi 2 (j10))))))))))
set_option maxRecDepth 20000 in
theorem sX1_prepare_0 {C : qCx} {w : qWp} (h : qOk C w RX1 cX1_prepare 3 2 155 155) (hm : qMt C none) (hx : qNx C) {j10 : qT (Unit × qM)} (k10 : qSnd C w 3 155 (qQf C w 155 155 jV) qfin 155 15 j10) : qSnd C w 3 155 (qQf C w 155 155 jV) qfin 155 0 (tX1_prepare_0 j10) :=
  cLa (pc := 0) h dX1_prepare_0 rfl (cLi (pc := 1) h dX1_prepare_1 rfl (gPi (pc := 2) h dX1_prepare_2 ff_X1_26_80 (Or.inl rfl) (Nat.le_of_ble_eq_true rfl) (Nat.le_of_ble_eq_true rfl) (cLa (pc := 5) h dX1_prepare_5 rfl (cLi (pc := 6) h dX1_prepare_6 rfl (cB (pc := 7) h dX1_prepare_7 rfl (aMul (pc := 9) h dX1_prepare_9 (gPi (pc := 10) h dX1_prepare_10 ff_X1_22_80 (Or.inl rfl) (Nat.le_of_ble_eq_true rfl) (Nat.le_of_ble_eq_true rfl) (cC (pc := 13) h dX1_prepare_13 rfl (cSi (pc := 14) h dX1_prepare_14 rfl (k10))))))))))
set_option maxRecDepth 20000 in
theorem lX1_prepare_0 (a1 : Int32) (m : qM) : tX1_prepare_0 (wX1_prepare_10 (fX1_prepare_10 (fX1_prepare_43 (fX1_prepare_63 (fX1_prepare_93 FU) FU) FU) FU)) [some (.ref 80), some (.int a1), none] [] m = fX1_prepare_0 a1 m := rfl
noncomputable def GX1_prepare : qG Unit := fun av m => match av with
  | [.ref 80, .int a1] => fX1_prepare a1 m
  | _ => none
theorem spX1_prepare : qSpV yX1_prepare (.code yX1_prepare cX1_prepare 3 none) 2 qfin 155 155 1 GX1_prepare := by
  intro av m m' hG
  unfold GX1_prepare at hG
  split at hG
  · rename_i a1
    rw [fX1_prepare_d] at hG
    exact ⟨qmeet (J := jV) (r := ((), m')) (av := [.ref 80, .int a1]) (by decide +kernel) (Nat.le_of_ble_eq_true rfl) (fun C w h hm hx hn => sX1_prepare_0 h hm hx (bX1_prepare_10 h hm hx (bX1_prepare_43 h hm hx (bX1_prepare_63 h hm hx (bX1_prepare_93 h hm hx FU) FU) FU) FU)) ((lX1_prepare_0 _ _).trans hG) (Nat.le_of_ble_eq_true rfl), Or.inl ⟨80, _, 1, _, _, rfl, by decide, rfl, qCk_1, rfl⟩⟩
  · cases hG
theorem dX9_awayUpTo_0 : decode cX9_awayUpTo 0 = .ok (.iconst 0, 1) := by decide +kernel
theorem dX9_awayUpTo_1 : decode cX9_awayUpTo 1 = .ok (.istore 4, 2) := by decide +kernel
theorem dX9_awayUpTo_3 : decode cX9_awayUpTo 3 = .ok (.iload 4, 2) := by decide +kernel
theorem dX9_awayUpTo_5 : decode cX9_awayUpTo 5 = .ok (.iload_n 3, 1) := by decide +kernel
theorem dX9_awayUpTo_6 : decode cX9_awayUpTo 6 = .ok (.if_icmp .ge 69, 3) := by decide +kernel
theorem dX9_awayUpTo_9 : decode cX9_awayUpTo 9 = .ok (.iload 4, 2) := by decide +kernel
theorem dX9_awayUpTo_11 : decode cX9_awayUpTo 11 = .ok (.aload_n 0, 1) := by decide +kernel
theorem dX9_awayUpTo_12 : decode cX9_awayUpTo 12 = .ok (.getfield 27, 3) := by decide +kernel
theorem dX9_awayUpTo_15 : decode cX9_awayUpTo 15 = .ok (.if_icmp .ge 60, 3) := by decide +kernel
theorem dX9_awayUpTo_18 : decode cX9_awayUpTo 18 = .ok (.aload_n 0, 1) := by decide +kernel
theorem dX9_awayUpTo_19 : decode cX9_awayUpTo 19 = .ok (.getfield 9, 3) := by decide +kernel
theorem dX9_awayUpTo_22 : decode cX9_awayUpTo 22 = .ok (.iload 4, 2) := by decide +kernel
theorem dX9_awayUpTo_24 : decode cX9_awayUpTo 24 = .ok (.iaload, 1) := by decide +kernel
theorem dX9_awayUpTo_25 : decode cX9_awayUpTo 25 = .ok (.iconst 3, 1) := by decide +kernel
theorem dX9_awayUpTo_26 : decode cX9_awayUpTo 26 = .ok (.if_icmp .ne 43, 3) := by decide +kernel
theorem dX9_awayUpTo_29 : decode cX9_awayUpTo 29 = .ok (.aload_n 0, 1) := by decide +kernel
theorem dX9_awayUpTo_30 : decode cX9_awayUpTo 30 = .ok (.getfield 18, 3) := by decide +kernel
theorem dX9_awayUpTo_33 : decode cX9_awayUpTo 33 = .ok (.iload 4, 2) := by decide +kernel
theorem dX9_awayUpTo_35 : decode cX9_awayUpTo 35 = .ok (.iaload, 1) := by decide +kernel
theorem dX9_awayUpTo_36 : decode cX9_awayUpTo 36 = .ok (.iload_n 1, 1) := by decide +kernel
theorem dX9_awayUpTo_37 : decode cX9_awayUpTo 37 = .ok (.if_icmp .ne 32, 3) := by decide +kernel
theorem dX9_awayUpTo_40 : decode cX9_awayUpTo 40 = .ok (.iload_n 2, 1) := by decide +kernel
theorem dX9_awayUpTo_41 : decode cX9_awayUpTo 41 = .ok (.aload_n 0, 1) := by decide +kernel
theorem dX9_awayUpTo_42 : decode cX9_awayUpTo 42 = .ok (.getfield 21, 3) := by decide +kernel
theorem dX9_awayUpTo_45 : decode cX9_awayUpTo 45 = .ok (.iload 4, 2) := by decide +kernel
theorem dX9_awayUpTo_47 : decode cX9_awayUpTo 47 = .ok (.iaload, 1) := by decide +kernel
theorem dX9_awayUpTo_48 : decode cX9_awayUpTo 48 = .ok (.aload_n 0, 1) := by decide +kernel
theorem dX9_awayUpTo_49 : decode cX9_awayUpTo 49 = .ok (.getfield 24, 3) := by decide +kernel
theorem dX9_awayUpTo_52 : decode cX9_awayUpTo 52 = .ok (.iload 4, 2) := by decide +kernel
theorem dX9_awayUpTo_54 : decode cX9_awayUpTo 54 = .ok (.iaload, 1) := by decide +kernel
theorem dX9_awayUpTo_55 : decode cX9_awayUpTo 55 = .ok (.invokestatic 39, 3) := by decide +kernel
theorem dX9_awayUpTo_58 : decode cX9_awayUpTo 58 = .ok (.ifCond .eq 11, 3) := by decide +kernel
theorem dX9_awayUpTo_61 : decode cX9_awayUpTo 61 = .ok (.aload_n 0, 1) := by decide +kernel
theorem dX9_awayUpTo_62 : decode cX9_awayUpTo 62 = .ok (.getfield 24, 3) := by decide +kernel
theorem dX9_awayUpTo_65 : decode cX9_awayUpTo 65 = .ok (.iload 4, 2) := by decide +kernel
theorem dX9_awayUpTo_67 : decode cX9_awayUpTo 67 = .ok (.iaload, 1) := by decide +kernel
theorem dX9_awayUpTo_68 : decode cX9_awayUpTo 68 = .ok (.ireturn, 1) := by decide +kernel
theorem dX9_awayUpTo_69 : decode cX9_awayUpTo 69 = .ok (.iinc 4 1, 3) := by decide +kernel
theorem dX9_awayUpTo_72 : decode cX9_awayUpTo 72 = .ok (.goto (-69), 3) := by decide +kernel
theorem dX9_awayUpTo_75 : decode cX9_awayUpTo 75 = .ok (.iconst (-1), 1) := by decide +kernel
theorem dX9_awayUpTo_76 : decode cX9_awayUpTo 76 = .ok (.ireturn, 1) := by decide +kernel
noncomputable def tX9_awayUpTo_37 (j2 : qT (Int32 × qM)) : qT (Int32 × qM) :=
  oInc 4 (1 : Int32) (j2)
noncomputable def wX9_awayUpTo_37 (k : Int32 → Int32 → Int32 → Int32 → qM → Option (Int32 × qM)) : qT (Int32 × qM) := fun lo st m => match lo, st with
  | [some (.ref 74), some (.int a1), some (.int a2), some (.int a3), some (.int a4)], [] => k a1 a2 a3 a4 m
  | _, _ => none
noncomputable def wX9_awayUpTo_2 (k : Int32 → Int32 → Int32 → Int32 → qM → Option (Int32 × qM)) : qT (Int32 × qM) := fun lo st m => match lo, st with
  | [some (.ref 74), some (.int a1), some (.int a2), some (.int a3), some (.int a4)], [] => k a1 a2 a3 a4 m
  | _, _ => none
set_option maxRecDepth 20000 in
theorem sX9_awayUpTo_37 {C : qCx} {w : qWp} (h : qOk C w RX9 cX9_awayUpTo 5 1 155 155) (hm : qMt C (some .int)) (hx : qNx C) {j2 : qT (Int32 × qM)} (k2 : qSnd C w 5 155 (qQf C w 155 155 jI) qfin 155 3 j2) : qSnd C w 5 155 (qQf C w 155 155 jI) qfin 155 69 (tX9_awayUpTo_37 j2) :=
  cInc (pc := 69) h dX9_awayUpTo_69 rfl (jGo (pc := 72) h dX9_awayUpTo_72 rfl (k2))
set_option maxRecDepth 20000 in
theorem lX9_awayUpTo_37 (k2 : Int32 → Int32 → Int32 → Int32 → qM → Option (Int32 × qM)) (a1 : Int32) (a2 : Int32) (a3 : Int32) (a4 : Int32) (m : qM) : tX9_awayUpTo_37 (wX9_awayUpTo_2 k2) [some (.ref 74), some (.int a1), some (.int a2), some (.int a3), some (.int a4)] [] m = fX9_awayUpTo_37 k2 a1 a2 a3 a4 m := rfl
theorem bX9_awayUpTo_37 {C : qCx} {w : qWp} (h : qOk C w RX9 cX9_awayUpTo 5 1 155 155) (hm : qMt C (some .int)) (hx : qNx C) {k2 : Int32 → Int32 → Int32 → Int32 → qM → Option (Int32 × qM)} (h2 : qSnd C w 5 155 (qQf C w 155 155 jI) qfin 155 3 (wX9_awayUpTo_2 k2)) : qSnd C w 5 155 (qQf C w 155 155 jI) qfin 155 69 (wX9_awayUpTo_37 (fX9_awayUpTo_37 k2)) :=
  qSnd_of (fun lo st m x hr0 => by
    unfold wX9_awayUpTo_37 at hr0
    split at hr0
    · exact ⟨_, (qsub_e (qsub_e (qsub_e (qsub_e (qsub_e qsub_nil))))), (lX9_awayUpTo_37 _ _ _ _ _ _).trans hr0⟩
    · cases hr0) (sX9_awayUpTo_37 h hm hx h2)
noncomputable def tX9_awayUpTo_2 (j39 : qT (Int32 × qM)) (j37 : qT (Int32 × qM)) : qT (Int32 × qM) :=
  oLi 4 (oLi 3 (oCGe (j39) (oLi 4 (oLa 0 (oGi 74 5 (oCGe (j39) (oLa 0 (oGf 74 0 75 (oLi 4 (oAi 75 80 (oC (.int (3 : Int32)) (oCEq (oLa 0 (oGf 74 2 77 (oLi 4 (oAi 77 80 (oLi 1 (oCEq (oLi 2 (oLa 0 (oGf 74 3 78 (oLi 4 (oAi 78 80 (oLa 0 (oGf 74 4 79 (oLi 4 (oAi 79 80 (oCi GX11_within 3 (oEq (j37) (oLa 0 (oGf 74 4 79 (oLi 4 (oAi 79 80 (eI)))))))))))))))) (j37))))))) (j37)))))))))))))
noncomputable def wX9_awayUpTo_39 (k : qM → Option (Int32 × qM)) : qT (Int32 × qM) := fun lo st m => match lo, st with
  | [_, _, _, _, _], [] => k m
  | _, _ => none
set_option maxRecDepth 20000 in
theorem sX9_awayUpTo_2 {C : qCx} {w : qWp} (h : qOk C w RX9 cX9_awayUpTo 5 1 155 155) (hm : qMt C (some .int)) (hx : qNx C) {j39 : qT (Int32 × qM)} {j37 : qT (Int32 × qM)} (k39 : qSnd C w 5 155 (qQf C w 155 155 jI) qfin 155 75 j39) (k37 : qSnd C w 5 155 (qQf C w 155 155 jI) qfin 155 69 j37) : qSnd C w 5 155 (qQf C w 155 155 jI) qfin 155 3 (tX9_awayUpTo_2 j39 j37) :=
  cLI (pc := 3) h dX9_awayUpTo_3 (cLi (pc := 5) h dX9_awayUpTo_5 rfl (jCGe (pc := 6) h dX9_awayUpTo_6 rfl (k39) (cLI (pc := 9) h dX9_awayUpTo_9 (cLa (pc := 11) h dX9_awayUpTo_11 rfl (gGi (pc := 12) h dX9_awayUpTo_12 ff_X9_27_74 (Nat.le_of_ble_eq_true rfl) (Nat.le_of_ble_eq_true rfl) (jCGe (pc := 15) h dX9_awayUpTo_15 rfl (k39) (cLa (pc := 18) h dX9_awayUpTo_18 rfl (gGf (pc := 19) h dX9_awayUpTo_19 ff_X9_9_74 (Nat.le_of_ble_eq_true rfl) (Nat.le_of_ble_eq_true rfl) rfl (cLI (pc := 22) h dX9_awayUpTo_22 (rAi (pc := 24) h dX9_awayUpTo_24 rfl (Nat.le_of_ble_eq_true rfl) (Nat.le_of_ble_eq_true rfl) (cC (pc := 25) h dX9_awayUpTo_25 rfl (jCNe (pc := 26) h dX9_awayUpTo_26 rfl (k37) (cLa (pc := 29) h dX9_awayUpTo_29 rfl (gGf (pc := 30) h dX9_awayUpTo_30 ff_X9_18_74 (Nat.le_of_ble_eq_true rfl) (Nat.le_of_ble_eq_true rfl) rfl (cLI (pc := 33) h dX9_awayUpTo_33 (rAi (pc := 35) h dX9_awayUpTo_35 rfl (Nat.le_of_ble_eq_true rfl) (Nat.le_of_ble_eq_true rfl) (cLi (pc := 36) h dX9_awayUpTo_36 rfl (jCNe (pc := 37) h dX9_awayUpTo_37 rfl (k37) (cLi (pc := 40) h dX9_awayUpTo_40 rfl (cLa (pc := 41) h dX9_awayUpTo_41 rfl (gGf (pc := 42) h dX9_awayUpTo_42 ff_X9_21_74 (Nat.le_of_ble_eq_true rfl) (Nat.le_of_ble_eq_true rfl) rfl (cLI (pc := 45) h dX9_awayUpTo_45 (rAi (pc := 47) h dX9_awayUpTo_47 rfl (Nat.le_of_ble_eq_true rfl) (Nat.le_of_ble_eq_true rfl) (cLa (pc := 48) h dX9_awayUpTo_48 rfl (gGf (pc := 49) h dX9_awayUpTo_49 ff_X9_24_74 (Nat.le_of_ble_eq_true rfl) (Nat.le_of_ble_eq_true rfl) rfl (cLI (pc := 52) h dX9_awayUpTo_52 (rAi (pc := 54) h dX9_awayUpTo_54 rfl (Nat.le_of_ble_eq_true rfl) (Nat.le_of_ble_eq_true rfl) (kCi (pc := 55) h (kd_X9_39 h dX9_awayUpTo_55) spX11_within (by decide) (by decide) (by decide) (by decide) (jEq (pc := 58) h dX9_awayUpTo_58 rfl (k37) (cLa (pc := 61) h dX9_awayUpTo_61 rfl (gGf (pc := 62) h dX9_awayUpTo_62 ff_X9_24_74 (Nat.le_of_ble_eq_true rfl) (Nat.le_of_ble_eq_true rfl) rfl (cLI (pc := 65) h dX9_awayUpTo_65 (rAi (pc := 67) h dX9_awayUpTo_67 rfl (Nat.le_of_ble_eq_true rfl) (Nat.le_of_ble_eq_true rfl) (zI (pc := 68) h hm (Nat.le_refl _) dX9_awayUpTo_68))))))))))))))))))))))))))))))))))
set_option maxRecDepth 20000 in
theorem lX9_awayUpTo_2 (k39 : qM → Option (Int32 × qM)) (n : Nat) (a1 : Int32) (a2 : Int32) (a3 : Int32) (a4 : Int32) (m : qM) : tX9_awayUpTo_2 (wX9_awayUpTo_39 k39) (wX9_awayUpTo_37 (fX9_awayUpTo_37 (fX9_awayUpTo_2 k39 n))) [some (.ref 74), some (.int a1), some (.int a2), some (.int a3), some (.int a4)] [] m = fX9_awayUpTo_2 k39 (n + 1) a1 a2 a3 a4 m := rfl
theorem bX9_awayUpTo_2 {C : qCx} {w : qWp} (h : qOk C w RX9 cX9_awayUpTo 5 1 155 155) (hm : qMt C (some .int)) (hx : qNx C) {k39 : qM → Option (Int32 × qM)} (h39 : qSnd C w 5 155 (qQf C w 155 155 jI) qfin 155 75 (wX9_awayUpTo_39 k39)) : ∀ n : Nat, qSnd C w 5 155 (qQf C w 155 155 jI) qfin 155 3 (wX9_awayUpTo_2 (fX9_awayUpTo_2 k39 n))
  | 0 => qSnd_of0 (fun lo st m x hr0 => by
    unfold wX9_awayUpTo_2 at hr0
    split at hr0
    · cases hr0
    · cases hr0)
  | n + 1 => by
    have ih := bX9_awayUpTo_2 h hm hx h39 n
    exact qSnd_of (fun lo st m x hr0 => by
    unfold wX9_awayUpTo_2 at hr0
    split at hr0
    · exact ⟨_, (qsub_e (qsub_e (qsub_e (qsub_e (qsub_e qsub_nil))))), (lX9_awayUpTo_2 _ n _ _ _ _ _).trans hr0⟩
    · cases hr0) (sX9_awayUpTo_2 h hm hx h39 (bX9_awayUpTo_37 h hm hx ih))
noncomputable def tX9_awayUpTo_39 : qT (Int32 × qM) :=
  oC (.int (-1 : Int32)) (eI)
set_option maxRecDepth 20000 in
theorem sX9_awayUpTo_39 {C : qCx} {w : qWp} (h : qOk C w RX9 cX9_awayUpTo 5 1 155 155) (hm : qMt C (some .int)) (hx : qNx C) : qSnd C w 5 155 (qQf C w 155 155 jI) qfin 155 75 (tX9_awayUpTo_39) :=
  cC (pc := 75) h dX9_awayUpTo_75 rfl (zI (pc := 76) h hm (Nat.le_refl _) dX9_awayUpTo_76)
set_option maxRecDepth 20000 in
theorem lX9_awayUpTo_39 (m : qM) : tX9_awayUpTo_39 [none, none, none, none, none] [] m = fX9_awayUpTo_39 m := rfl
theorem bX9_awayUpTo_39 {C : qCx} {w : qWp} (h : qOk C w RX9 cX9_awayUpTo 5 1 155 155) (hm : qMt C (some .int)) (hx : qNx C) : qSnd C w 5 155 (qQf C w 155 155 jI) qfin 155 75 (wX9_awayUpTo_39 fX9_awayUpTo_39) :=
  qSnd_of (fun lo st m x hr0 => by
    unfold wX9_awayUpTo_39 at hr0
    split at hr0
    · exact ⟨_, (qsub_n (qsub_n (qsub_n (qsub_n (qsub_n qsub_nil))))), (lX9_awayUpTo_39 _).trans hr0⟩
    · cases hr0) (sX9_awayUpTo_39 h hm hx)
noncomputable def tX9_awayUpTo_0 (j2 : qT (Int32 × qM)) : qT (Int32 × qM) :=
  oC (.int (0 : Int32)) (oSi 4 (j2))
set_option maxRecDepth 20000 in
theorem sX9_awayUpTo_0 {C : qCx} {w : qWp} (h : qOk C w RX9 cX9_awayUpTo 5 1 155 155) (hm : qMt C (some .int)) (hx : qNx C) {j2 : qT (Int32 × qM)} (k2 : qSnd C w 5 155 (qQf C w 155 155 jI) qfin 155 3 j2) : qSnd C w 5 155 (qQf C w 155 155 jI) qfin 155 0 (tX9_awayUpTo_0 j2) :=
  cC (pc := 0) h dX9_awayUpTo_0 rfl (cSI (pc := 1) h dX9_awayUpTo_1 (k2))
set_option maxRecDepth 20000 in
theorem lX9_awayUpTo_0 (a1 : Int32) (a2 : Int32) (a3 : Int32) (m : qM) : tX9_awayUpTo_0 (wX9_awayUpTo_2 (fX9_awayUpTo_2 fX9_awayUpTo_39 FU)) [some (.ref 74), some (.int a1), some (.int a2), some (.int a3), none] [] m = fX9_awayUpTo_0 a1 a2 a3 m := rfl
noncomputable def GX9_awayUpTo : qG Int32 := fun av m => match av with
  | [.ref 74, .int a1, .int a2, .int a3] => fX9_awayUpTo a1 a2 a3 m
  | _ => none
theorem spX9_awayUpTo : qSpI yX9_awayUpTo (.code yX9_awayUpTo cX9_awayUpTo 5 (some .int)) 1 qfin 155 155 1 GX9_awayUpTo := by
  intro av m x m' hG
  unfold GX9_awayUpTo at hG
  split at hG
  · rename_i a1 a2 a3
    rw [fX9_awayUpTo_d] at hG
    exact ⟨qmeet (J := jI) (r := (x, m')) (av := [.ref 74, .int a1, .int a2, .int a3]) (by decide +kernel) (Nat.le_of_ble_eq_true rfl) (fun C w h hm hx hn => sX9_awayUpTo_0 h hm hx (bX9_awayUpTo_2 h hm hx (bX9_awayUpTo_39 h hm hx) FU)) ((lX9_awayUpTo_0 _ _ _ _).trans hG) (Nat.le_of_ble_eq_true rfl), Or.inl ⟨74, _, 9, _, _, rfl, by decide, rfl, qCk_9, rfl⟩⟩
  · cases hG
theorem ml_X4_67 : Jvm.Cond.methodLinkNest RX4 67 yX11_within "ParentEve" ∈ qTw := qm5 (List.mem_of_getElem? (i := 151) (by decide +kernel)) (by decide +kernel)
theorem kd_X4_67 {C : qCx} {w : qWp} {cc : ByteArray} {nL dp n0 n1 pc : Nat} (h : qOk C w RX4 cc nL dp n0 n1) (d : decode cc pc = .ok (.invokestatic 67, 3)) : qCallOk C w nL dp n0 n1 pc 3 0 yX11_within (.code yX11_within cX11_within 3 (some .boolean)) := kindSN h d ml_X4_67 im_X11_within in_ParentEve co_X11_within yk_X11_within (by decide)
theorem dX4_askIn_0 : decode cX4_askIn 0 = .ok (.iload_n 2, 1) := by decide +kernel
theorem dX4_askIn_1 : decode cX4_askIn 1 = .ok (.iconst 0, 1) := by decide +kernel
theorem dX4_askIn_2 : decode cX4_askIn 2 = .ok (.bipush 19, 2) := by decide +kernel
theorem dX4_askIn_4 : decode cX4_askIn 4 = .ok (.invokestatic 67, 3) := by decide +kernel
theorem dX4_askIn_7 : decode cX4_askIn 7 = .ok (.ifCond .eq 17, 3) := by decide +kernel
theorem dX4_askIn_10 : decode cX4_askIn 10 = .ok (.aload_n 0, 1) := by decide +kernel
theorem dX4_askIn_11 : decode cX4_askIn 11 = .ok (.getfield 28, 3) := by decide +kernel
theorem dX4_askIn_14 : decode cX4_askIn 14 = .ok (.iload_n 1, 1) := by decide +kernel
theorem dX4_askIn_15 : decode cX4_askIn 15 = .ok (.bipush 20, 2) := by decide +kernel
theorem dX4_askIn_17 : decode cX4_askIn 17 = .ok (.imul, 1) := by decide +kernel
theorem dX4_askIn_18 : decode cX4_askIn 18 = .ok (.iload_n 2, 1) := by decide +kernel
theorem dX4_askIn_19 : decode cX4_askIn 19 = .ok (.iadd, 1) := by decide +kernel
theorem dX4_askIn_20 : decode cX4_askIn 20 = .ok (.iaload, 1) := by decide +kernel
theorem dX4_askIn_21 : decode cX4_askIn 21 = .ok (.goto 4, 3) := by decide +kernel
theorem dX4_askIn_24 : decode cX4_askIn 24 = .ok (.iconst (-1), 1) := by decide +kernel
theorem dX4_askIn_25 : decode cX4_askIn 25 = .ok (.ireturn, 1) := by decide +kernel
noncomputable def tX4_askIn_15 : qT (Int32 × qM) :=
  eI
noncomputable def wX4_askIn_15 (k : Int32 → qM → Option (Int32 × qM)) : qT (Int32 × qM) := fun lo st m => match lo, st with
  | [_, _, _], [.int s0] => k s0 m
  | _, _ => none
set_option maxRecDepth 20000 in
theorem sX4_askIn_15 {C : qCx} {w : qWp} (h : qOk C w RX4 cX4_askIn 3 1 155 155) (hm : qMt C (some .int)) (hx : qNx C) : qSnd C w 3 155 (qQf C w 155 155 jI) qfin 155 25 (tX4_askIn_15) :=
  zI (pc := 25) h hm (Nat.le_refl _) dX4_askIn_25
set_option maxRecDepth 20000 in
theorem lX4_askIn_15 (s0 : Int32) (m : qM) : tX4_askIn_15 [none, none, none] [(.int s0)] m = fX4_askIn_15 s0 m := rfl
theorem bX4_askIn_15 {C : qCx} {w : qWp} (h : qOk C w RX4 cX4_askIn 3 1 155 155) (hm : qMt C (some .int)) (hx : qNx C) : qSnd C w 3 155 (qQf C w 155 155 jI) qfin 155 25 (wX4_askIn_15 fX4_askIn_15) :=
  qSnd_of (fun lo st m x hr0 => by
    unfold wX4_askIn_15 at hr0
    split at hr0
    · exact ⟨_, (qsub_n (qsub_n (qsub_n qsub_nil))), (lX4_askIn_15 _ _).trans hr0⟩
    · cases hr0) (sX4_askIn_15 h hm hx)
noncomputable def tX4_askIn_0 (j15 : qT (Int32 × qM)) : qT (Int32 × qM) :=
  oLi 2 (oC (.int (0 : Int32)) (oC (.int (19 : Int32)) (oCi GX11_within 3 (oEq (oC (.int (-1 : Int32)) (j15)) (oLa 0 (oGf 58 7 64 (oLi 1 (oC (.int (20 : Int32)) (o2 (· * ·) (oLi 2 (o2 (· + ·) (oAi 64 200 (j15)))))))))))))
set_option maxRecDepth 20000 in
theorem sX4_askIn_0 {C : qCx} {w : qWp} (h : qOk C w RX4 cX4_askIn 3 1 155 155) (hm : qMt C (some .int)) (hx : qNx C) {j15 : qT (Int32 × qM)} (k15 : qSnd C w 3 155 (qQf C w 155 155 jI) qfin 155 25 j15) : qSnd C w 3 155 (qQf C w 155 155 jI) qfin 155 0 (tX4_askIn_0 j15) :=
  cLi (pc := 0) h dX4_askIn_0 rfl (cC (pc := 1) h dX4_askIn_1 rfl (cB (pc := 2) h dX4_askIn_2 rfl (kCi (pc := 4) h (kd_X4_67 h dX4_askIn_4) spX11_within (by decide) (by decide) (by decide) (by decide) (jEq (pc := 7) h dX4_askIn_7 rfl (cC (pc := 24) h dX4_askIn_24 rfl (k15)) (cLa (pc := 10) h dX4_askIn_10 rfl (gGf (pc := 11) h dX4_askIn_11 ff_X4_28_58 (Nat.le_of_ble_eq_true rfl) (Nat.le_of_ble_eq_true rfl) rfl (cLi (pc := 14) h dX4_askIn_14 rfl (cB (pc := 15) h dX4_askIn_15 rfl (aMul (pc := 17) h dX4_askIn_17 (cLi (pc := 18) h dX4_askIn_18 rfl (aAdd (pc := 19) h dX4_askIn_19 (rAi (pc := 20) h dX4_askIn_20 rfl (Nat.le_of_ble_eq_true rfl) (Nat.le_of_ble_eq_true rfl) (jGo (pc := 21) h dX4_askIn_21 rfl (k15))))))))))))))
set_option maxRecDepth 20000 in
theorem lX4_askIn_0 (a1 : Int32) (a2 : Int32) (m : qM) : tX4_askIn_0 (wX4_askIn_15 fX4_askIn_15) [some (.ref 58), some (.int a1), some (.int a2)] [] m = fX4_askIn_0 a1 a2 m := rfl
noncomputable def GX4_askIn : qG Int32 := fun av m => match av with
  | [.ref 58, .int a1, .int a2] => fX4_askIn a1 a2 m
  | _ => none
theorem spX4_askIn : qSpI yX4_askIn (.code yX4_askIn cX4_askIn 3 (some .int)) 1 qfin 155 155 1 GX4_askIn := by
  intro av m x m' hG
  unfold GX4_askIn at hG
  split at hG
  · rename_i a1 a2
    rw [fX4_askIn_d] at hG
    exact ⟨qmeet (J := jI) (r := (x, m')) (av := [.ref 58, .int a1, .int a2]) (by decide +kernel) (Nat.le_of_ble_eq_true rfl) (fun C w h hm hx hn => sX4_askIn_0 h hm hx (bX4_askIn_15 h hm hx)) ((lX4_askIn_0 _ _ _).trans hG) (Nat.le_of_ble_eq_true rfl), Or.inl ⟨58, _, 4, _, _, rfl, by decide, rfl, qCk_4, rfl⟩⟩
  · cases hG
theorem ml_X11_103 : Jvm.Cond.methodLink RX11 103 yX11_within ∈ qTw := qm2 (List.mem_of_getElem? (i := 214) (by decide +kernel)) (by decide +kernel)
theorem kd_X11_103 {C : qCx} {w : qWp} {cc : ByteArray} {nL dp n0 n1 pc : Nat} (h : qOk C w RX11 cc nL dp n0 n1) (d : decode cc pc = .ok (.invokestatic 103, 3)) : qCallOk C w nL dp n0 n1 pc 3 0 yX11_within (.code yX11_within cX11_within 3 (some .boolean)) := kindS h d ml_X11_103 im_X11_within in_ParentEve co_X11_within yk_X11_within (by decide)
theorem dX11_isPolicy_0 : decode cX11_isPolicy 0 = .ok (.iload_n 0, 1) := by decide +kernel
theorem dX11_isPolicy_1 : decode cX11_isPolicy 1 = .ok (.iconst 0, 1) := by decide +kernel
theorem dX11_isPolicy_2 : decode cX11_isPolicy 2 = .ok (.iconst 3, 1) := by decide +kernel
theorem dX11_isPolicy_3 : decode cX11_isPolicy 3 = .ok (.invokestatic 103, 3) := by decide +kernel
theorem dX11_isPolicy_6 : decode cX11_isPolicy 6 = .ok (.ireturn, 1) := by decide +kernel
noncomputable def tX11_isPolicy_0 : qT (Int32 × qM) :=
  oLi 0 (oC (.int (0 : Int32)) (oC (.int (3 : Int32)) (oCi GX11_within 3 (eZ))))
set_option maxRecDepth 20000 in
theorem sX11_isPolicy_0 {C : qCx} {w : qWp} (h : qOk C w RX11 cX11_isPolicy 1 1 155 155) (hm : qMt C (some .boolean)) (hx : qNx C) : qSnd C w 1 155 (qQf C w 155 155 jI) qfin 155 0 (tX11_isPolicy_0) :=
  cLi (pc := 0) h dX11_isPolicy_0 rfl (cC (pc := 1) h dX11_isPolicy_1 rfl (cC (pc := 2) h dX11_isPolicy_2 rfl (kCi (pc := 3) h (kd_X11_103 h dX11_isPolicy_3) spX11_within (by decide) (by decide) (by decide) (by decide) (zZ (pc := 6) h hm (Nat.le_refl _) dX11_isPolicy_6))))
set_option maxRecDepth 20000 in
theorem lX11_isPolicy_0 (a0 : Int32) (m : qM) : tX11_isPolicy_0 [some (.int a0)] [] m = fX11_isPolicy_0 a0 m := rfl
noncomputable def GX11_isPolicy : qG Int32 := fun av m => match av with
  | [.int a0] => fX11_isPolicy a0 m
  | _ => none
theorem spX11_isPolicy : qSpI yX11_isPolicy (.code yX11_isPolicy cX11_isPolicy 1 (some .boolean)) 1 qfin 155 155 0 GX11_isPolicy := by
  intro av m x m' hG
  unfold GX11_isPolicy at hG
  split at hG
  · rename_i a0
    rw [fX11_isPolicy_d] at hG
    exact ⟨qmeet (J := jI) (r := (x, m')) (av := [.int a0]) (by decide +kernel) (Nat.le_of_ble_eq_true rfl) (fun C w h hm hx hn => sX11_isPolicy_0 h hm hx) ((lX11_isPolicy_0 _ _).trans hG) (Nat.le_of_ble_eq_true rfl), trivial⟩
  · cases hG
theorem im_X11_isPolicy : Jvm.Cond.static yX11_isPolicy ∈ qTw := qm3 (List.mem_of_getElem? (i := 138) (by decide +kernel)) (by decide +kernel)
theorem co_X11_isPolicy : Jvm.Cond.code yX11_isPolicy cX11_isPolicy 1 (some .boolean) ∈ qTw := qm3 (List.mem_of_getElem? (i := 139) (by decide +kernel)) (by decide +kernel)
theorem yk_X11_isPolicy : qYk yX11_isPolicy 1 := ⟨⟨by decide +kernel, by decide +kernel⟩, by decide +kernel⟩
theorem ml_X10_32 : Jvm.Cond.methodLinkNest RX10 32 yX11_isPolicy "ParentEve" ∈ qTw := qm3 (List.mem_of_getElem? (i := 181) (by decide +kernel)) (by decide +kernel)
theorem kd_X10_32 {C : qCx} {w : qWp} {cc : ByteArray} {nL dp n0 n1 pc : Nat} (h : qOk C w RX10 cc nL dp n0 n1) (d : decode cc pc = .ok (.invokestatic 32, 3)) : qCallOk C w nL dp n0 n1 pc 1 0 yX11_isPolicy (.code yX11_isPolicy cX11_isPolicy 1 (some .boolean)) := kindSN h d ml_X10_32 im_X11_isPolicy in_ParentEve co_X11_isPolicy yk_X11_isPolicy (by decide)
theorem dX10_policyOf_0 : decode cX10_policyOf 0 = .ok (.aload_n 0, 1) := by decide +kernel
theorem dX10_policyOf_1 : decode cX10_policyOf 1 = .ok (.getfield 22, 3) := by decide +kernel
theorem dX10_policyOf_4 : decode cX10_policyOf 4 = .ok (.iload_n 1, 1) := by decide +kernel
theorem dX10_policyOf_5 : decode cX10_policyOf 5 = .ok (.iaload, 1) := by decide +kernel
theorem dX10_policyOf_6 : decode cX10_policyOf 6 = .ok (.istore_n 2, 1) := by decide +kernel
theorem dX10_policyOf_7 : decode cX10_policyOf 7 = .ok (.iload_n 2, 1) := by decide +kernel
theorem dX10_policyOf_8 : decode cX10_policyOf 8 = .ok (.invokestatic 32, 3) := by decide +kernel
theorem dX10_policyOf_11 : decode cX10_policyOf 11 = .ok (.ifCond .eq 12, 3) := by decide +kernel
theorem dX10_policyOf_14 : decode cX10_policyOf 14 = .ok (.aload_n 0, 1) := by decide +kernel
theorem dX10_policyOf_15 : decode cX10_policyOf 15 = .ok (.getfield 11, 3) := by decide +kernel
theorem dX10_policyOf_18 : decode cX10_policyOf 18 = .ok (.iload_n 2, 1) := by decide +kernel
theorem dX10_policyOf_19 : decode cX10_policyOf 19 = .ok (.aaload, 1) := by decide +kernel
theorem dX10_policyOf_20 : decode cX10_policyOf 20 = .ok (.goto 4, 3) := by decide +kernel
theorem dX10_policyOf_23 : decode cX10_policyOf 23 = .ok (.aconst_null, 1) := by decide +kernel
theorem dX10_policyOf_24 : decode cX10_policyOf 24 = .ok (.areturn, 1) := by decide +kernel
noncomputable def tX10_policyOf_14 : qT (Option Nat × qM) :=
  eR
noncomputable def wX10_policyOf_14 (k : qM → Option (Option Nat × qM)) : qT (Option Nat × qM) := fun lo st m => match lo, st with
  | [_, _, _], [.null] => k m
  | _, _ => none
set_option maxRecDepth 20000 in
theorem sX10_policyOf_14 {C : qCx} {w : qWp} (h : qOk C w RX10 cX10_policyOf 3 2 155 155) (hm : qMt C (some (.object "ParentEve$Policy"))) (hx : qNx C) : qSnd C w 3 155 (qQf C w 155 155 jR) qfin 155 24 (tX10_policyOf_14) :=
  zR (pc := 24) h hm (Nat.le_refl _) dX10_policyOf_24
set_option maxRecDepth 20000 in
theorem lX10_policyOf_14 (m : qM) : tX10_policyOf_14 [none, none, none] [.null] m = fX10_policyOf_14 m := rfl
theorem bX10_policyOf_14 {C : qCx} {w : qWp} (h : qOk C w RX10 cX10_policyOf 3 2 155 155) (hm : qMt C (some (.object "ParentEve$Policy"))) (hx : qNx C) : qSnd C w 3 155 (qQf C w 155 155 jR) qfin 155 24 (wX10_policyOf_14 fX10_policyOf_14) :=
  qSnd_of (fun lo st m x hr0 => by
    unfold wX10_policyOf_14 at hr0
    split at hr0
    · exact ⟨_, (qsub_n (qsub_n (qsub_n qsub_nil))), (lX10_policyOf_14 _).trans hr0⟩
    · cases hr0) (sX10_policyOf_14 h hm hx)
noncomputable def tX10_policyOf_14a : qT (Option Nat × qM) :=
  eR
noncomputable def wX10_policyOf_14a (k : Nat → qM → Option (Option Nat × qM)) : qT (Option Nat × qM) := fun lo st m => match lo, st with
  | [_, _, _], [.ref s0] => k s0 m
  | _, _ => none
set_option maxRecDepth 20000 in
theorem sX10_policyOf_14a {C : qCx} {w : qWp} (h : qOk C w RX10 cX10_policyOf 3 2 155 155) (hm : qMt C (some (.object "ParentEve$Policy"))) (hx : qNx C) : qSnd C w 3 155 (qQf C w 155 155 jR) qfin 155 24 (tX10_policyOf_14a) :=
  zR (pc := 24) h hm (Nat.le_refl _) dX10_policyOf_24
set_option maxRecDepth 20000 in
theorem lX10_policyOf_14a (s0 : Nat) (m : qM) : tX10_policyOf_14a [none, none, none] [(.ref s0)] m = fX10_policyOf_14a s0 m := rfl
theorem bX10_policyOf_14a {C : qCx} {w : qWp} (h : qOk C w RX10 cX10_policyOf 3 2 155 155) (hm : qMt C (some (.object "ParentEve$Policy"))) (hx : qNx C) : qSnd C w 3 155 (qQf C w 155 155 jR) qfin 155 24 (wX10_policyOf_14a fX10_policyOf_14a) :=
  qSnd_of (fun lo st m x hr0 => by
    unfold wX10_policyOf_14a at hr0
    split at hr0
    · exact ⟨_, (qsub_n (qsub_n (qsub_n qsub_nil))), (lX10_policyOf_14a _ _).trans hr0⟩
    · cases hr0) (sX10_policyOf_14a h hm hx)
noncomputable def tX10_policyOf_0 (j14 : qT (Option Nat × qM)) (j14a : qT (Option Nat × qM)) : qT (Option Nat × qM) :=
  oLa 0 (oGf 7 2 16 (oLi 1 (oAi 16 10 (oSi 2 (oLi 2 (oCi GX11_isPolicy 1 (oEq (oC .null (j14)) (oLa 0 (oGf 7 0 8 (oLi 2 (oAr 8 4 qpol (j14a))))))))))))
set_option maxRecDepth 20000 in
theorem sX10_policyOf_0 {C : qCx} {w : qWp} (h : qOk C w RX10 cX10_policyOf 3 2 155 155) (hm : qMt C (some (.object "ParentEve$Policy"))) (hx : qNx C) {j14 : qT (Option Nat × qM)} {j14a : qT (Option Nat × qM)} (k14 : qSnd C w 3 155 (qQf C w 155 155 jR) qfin 155 24 j14) (k14a : qSnd C w 3 155 (qQf C w 155 155 jR) qfin 155 24 j14a) : qSnd C w 3 155 (qQf C w 155 155 jR) qfin 155 0 (tX10_policyOf_0 j14 j14a) :=
  cLa (pc := 0) h dX10_policyOf_0 rfl (gGf (pc := 1) h dX10_policyOf_1 ff_X10_22_7 (Nat.le_of_ble_eq_true rfl) (Nat.le_of_ble_eq_true rfl) rfl (cLi (pc := 4) h dX10_policyOf_4 rfl (rAi (pc := 5) h dX10_policyOf_5 rfl (Nat.le_of_ble_eq_true rfl) (Nat.le_of_ble_eq_true rfl) (cSi (pc := 6) h dX10_policyOf_6 rfl (cLi (pc := 7) h dX10_policyOf_7 rfl (kCi (pc := 8) h (kd_X10_32 h dX10_policyOf_8) spX11_isPolicy (by decide) (by decide) (by decide) (by decide) (jEq (pc := 11) h dX10_policyOf_11 rfl (aNull (pc := 23) h dX10_policyOf_23 (k14)) (cLa (pc := 14) h dX10_policyOf_14 rfl (gGf (pc := 15) h dX10_policyOf_15 ff_X10_11_7 (Nat.le_of_ble_eq_true rfl) (Nat.le_of_ble_eq_true rfl) rfl (cLi (pc := 18) h dX10_policyOf_18 rfl (rAr qpol_1000 (pc := 19) h dX10_policyOf_19 rfl (Nat.le_of_ble_eq_true rfl) (Nat.le_of_ble_eq_true rfl) (jGo (pc := 20) h dX10_policyOf_20 rfl (k14a)))))))))))))
set_option maxRecDepth 20000 in
theorem lX10_policyOf_0 (a1 : Int32) (m : qM) : tX10_policyOf_0 (wX10_policyOf_14 fX10_policyOf_14) (wX10_policyOf_14a fX10_policyOf_14a) [some (.ref 7), some (.int a1), none] [] m = fX10_policyOf_0 a1 m := rfl
noncomputable def GX10_policyOf : qG (Option Nat) := fun av m => match av with
  | [.ref 7, .int a1] => fX10_policyOf a1 m
  | _ => none
theorem spX10_policyOf : qSpR yX10_policyOf (.code yX10_policyOf cX10_policyOf 3 (some (.object "ParentEve$Policy"))) 2 qfin 155 155 1 GX10_policyOf := by
  intro av m x m' hG
  unfold GX10_policyOf at hG
  split at hG
  · rename_i a1
    rw [fX10_policyOf_d] at hG
    exact ⟨qmeet (J := jR) (r := (x, m')) (av := [.ref 7, .int a1]) (by decide +kernel) (Nat.le_of_ble_eq_true rfl) (fun C w h hm hx hn => sX10_policyOf_0 h hm hx (bX10_policyOf_14 h hm hx) (bX10_policyOf_14a h hm hx)) ((lX10_policyOf_0 _ _).trans hG) (Nat.le_of_ble_eq_true rfl), Or.inl ⟨7, _, 10, _, _, rfl, by decide, rfl, qCk_10, rfl⟩⟩
  · cases hG
theorem dX4_teacherOf_0 : decode cX4_teacherOf 0 = .ok (.aload_n 0, 1) := by decide +kernel
theorem dX4_teacherOf_1 : decode cX4_teacherOf 1 = .ok (.getfield 15, 3) := by decide +kernel
theorem dX4_teacherOf_4 : decode cX4_teacherOf 4 = .ok (.iload_n 1, 1) := by decide +kernel
theorem dX4_teacherOf_5 : decode cX4_teacherOf 5 = .ok (.iaload, 1) := by decide +kernel
theorem dX4_teacherOf_6 : decode cX4_teacherOf 6 = .ok (.ireturn, 1) := by decide +kernel
noncomputable def tX4_teacherOf_0 : qT (Int32 × qM) :=
  oLa 0 (oGf 58 3 60 (oLi 1 (oAi 60 40 (eI))))
set_option maxRecDepth 20000 in
theorem sX4_teacherOf_0 {C : qCx} {w : qWp} (h : qOk C w RX4 cX4_teacherOf 2 0 155 155) (hm : qMt C (some .int)) (hx : qNx C) : qSnd C w 2 155 (qQf C w 155 155 jI) qfin 155 0 (tX4_teacherOf_0) :=
  cLa (pc := 0) h dX4_teacherOf_0 rfl (gGf (pc := 1) h dX4_teacherOf_1 ff_X4_15_58 (Nat.le_of_ble_eq_true rfl) (Nat.le_of_ble_eq_true rfl) rfl (cLi (pc := 4) h dX4_teacherOf_4 rfl (rAi (pc := 5) h dX4_teacherOf_5 rfl (Nat.le_of_ble_eq_true rfl) (Nat.le_of_ble_eq_true rfl) (zI (pc := 6) h hm (Nat.le_refl _) dX4_teacherOf_6))))
set_option maxRecDepth 20000 in
theorem lX4_teacherOf_0 (a1 : Int32) (m : qM) : tX4_teacherOf_0 [some (.ref 58), some (.int a1)] [] m = fX4_teacherOf_0 a1 m := rfl
noncomputable def GX4_teacherOf : qG Int32 := fun av m => match av with
  | [.ref 58, .int a1] => fX4_teacherOf a1 m
  | _ => none
theorem spX4_teacherOf : qSpI yX4_teacherOf (.code yX4_teacherOf cX4_teacherOf 2 (some .int)) 0 qfin 155 155 1 GX4_teacherOf := by
  intro av m x m' hG
  unfold GX4_teacherOf at hG
  split at hG
  · rename_i a1
    rw [fX4_teacherOf_d] at hG
    exact ⟨qmeet (J := jI) (r := (x, m')) (av := [.ref 58, .int a1]) (by decide +kernel) (Nat.le_of_ble_eq_true rfl) (fun C w h hm hx hn => sX4_teacherOf_0 h hm hx) ((lX4_teacherOf_0 _ _).trans hG) (Nat.le_of_ble_eq_true rfl), Or.inl ⟨58, _, 4, _, _, rfl, by decide, rfl, qCk_4, rfl⟩⟩
  · cases hG
theorem dX4_isAsk_0 : decode cX4_isAsk 0 = .ok (.iload_n 1, 1) := by decide +kernel
theorem dX4_isAsk_1 : decode cX4_isAsk 1 = .ok (.ifCond .lt 15, 3) := by decide +kernel
theorem dX4_isAsk_4 : decode cX4_isAsk 4 = .ok (.iload_n 1, 1) := by decide +kernel
theorem dX4_isAsk_5 : decode cX4_isAsk 5 = .ok (.aload_n 0, 1) := by decide +kernel
theorem dX4_isAsk_6 : decode cX4_isAsk 6 = .ok (.getfield 40, 3) := by decide +kernel
theorem dX4_isAsk_9 : decode cX4_isAsk 9 = .ok (.if_icmp .ge 7, 3) := by decide +kernel
theorem dX4_isAsk_12 : decode cX4_isAsk 12 = .ok (.iconst 1, 1) := by decide +kernel
theorem dX4_isAsk_13 : decode cX4_isAsk 13 = .ok (.goto 4, 3) := by decide +kernel
theorem dX4_isAsk_16 : decode cX4_isAsk 16 = .ok (.iconst 0, 1) := by decide +kernel
theorem dX4_isAsk_17 : decode cX4_isAsk 17 = .ok (.ireturn, 1) := by decide +kernel
noncomputable def tX4_isAsk_9 : qT (Int32 × qM) :=
  eZ
noncomputable def wX4_isAsk_9 (k : Int32 → qM → Option (Int32 × qM)) : qT (Int32 × qM) := fun lo st m => match lo, st with
  | [_, _], [.int s0] => k s0 m
  | _, _ => none
set_option maxRecDepth 20000 in
theorem sX4_isAsk_9 {C : qCx} {w : qWp} (h : qOk C w RX4 cX4_isAsk 2 0 155 155) (hm : qMt C (some .boolean)) (hx : qNx C) : qSnd C w 2 155 (qQf C w 155 155 jI) qfin 155 17 (tX4_isAsk_9) :=
  zZ (pc := 17) h hm (Nat.le_refl _) dX4_isAsk_17
set_option maxRecDepth 20000 in
theorem lX4_isAsk_9 (s0 : Int32) (m : qM) : tX4_isAsk_9 [none, none] [(.int s0)] m = fX4_isAsk_9 s0 m := rfl
theorem bX4_isAsk_9 {C : qCx} {w : qWp} (h : qOk C w RX4 cX4_isAsk 2 0 155 155) (hm : qMt C (some .boolean)) (hx : qNx C) : qSnd C w 2 155 (qQf C w 155 155 jI) qfin 155 17 (wX4_isAsk_9 fX4_isAsk_9) :=
  qSnd_of (fun lo st m x hr0 => by
    unfold wX4_isAsk_9 at hr0
    split at hr0
    · exact ⟨_, (qsub_n (qsub_n qsub_nil)), (lX4_isAsk_9 _ _).trans hr0⟩
    · cases hr0) (sX4_isAsk_9 h hm hx)
noncomputable def tX4_isAsk_8 (j9 : qT (Int32 × qM)) : qT (Int32 × qM) :=
  oC (.int (0 : Int32)) (j9)
noncomputable def wX4_isAsk_8 (k : qM → Option (Int32 × qM)) : qT (Int32 × qM) := fun lo st m => match lo, st with
  | [_, _], [] => k m
  | _, _ => none
set_option maxRecDepth 20000 in
theorem sX4_isAsk_8 {C : qCx} {w : qWp} (h : qOk C w RX4 cX4_isAsk 2 0 155 155) (hm : qMt C (some .boolean)) (hx : qNx C) {j9 : qT (Int32 × qM)} (k9 : qSnd C w 2 155 (qQf C w 155 155 jI) qfin 155 17 j9) : qSnd C w 2 155 (qQf C w 155 155 jI) qfin 155 16 (tX4_isAsk_8 j9) :=
  cC (pc := 16) h dX4_isAsk_16 rfl (k9)
set_option maxRecDepth 20000 in
theorem lX4_isAsk_8 (m : qM) : tX4_isAsk_8 (wX4_isAsk_9 fX4_isAsk_9) [none, none] [] m = fX4_isAsk_8 m := rfl
theorem bX4_isAsk_8 {C : qCx} {w : qWp} (h : qOk C w RX4 cX4_isAsk 2 0 155 155) (hm : qMt C (some .boolean)) (hx : qNx C) : qSnd C w 2 155 (qQf C w 155 155 jI) qfin 155 16 (wX4_isAsk_8 fX4_isAsk_8) :=
  qSnd_of (fun lo st m x hr0 => by
    unfold wX4_isAsk_8 at hr0
    split at hr0
    · exact ⟨_, (qsub_n (qsub_n qsub_nil)), (lX4_isAsk_8 _).trans hr0⟩
    · cases hr0) (sX4_isAsk_8 h hm hx (bX4_isAsk_9 h hm hx))
noncomputable def tX4_isAsk_0 (j8 : qT (Int32 × qM)) (j9 : qT (Int32 × qM)) : qT (Int32 × qM) :=
  oLi 1 (oLt (j8) (oLi 1 (oLa 0 (oGi 58 11 (oCGe (j8) (oC (.int (1 : Int32)) (j9)))))))
set_option maxRecDepth 20000 in
theorem sX4_isAsk_0 {C : qCx} {w : qWp} (h : qOk C w RX4 cX4_isAsk 2 0 155 155) (hm : qMt C (some .boolean)) (hx : qNx C) {j8 : qT (Int32 × qM)} {j9 : qT (Int32 × qM)} (k8 : qSnd C w 2 155 (qQf C w 155 155 jI) qfin 155 16 j8) (k9 : qSnd C w 2 155 (qQf C w 155 155 jI) qfin 155 17 j9) : qSnd C w 2 155 (qQf C w 155 155 jI) qfin 155 0 (tX4_isAsk_0 j8 j9) :=
  cLi (pc := 0) h dX4_isAsk_0 rfl (jLt (pc := 1) h dX4_isAsk_1 rfl (k8) (cLi (pc := 4) h dX4_isAsk_4 rfl (cLa (pc := 5) h dX4_isAsk_5 rfl (gGi (pc := 6) h dX4_isAsk_6 ff_X4_40_58 (Nat.le_of_ble_eq_true rfl) (Nat.le_of_ble_eq_true rfl) (jCGe (pc := 9) h dX4_isAsk_9 rfl (k8) (cC (pc := 12) h dX4_isAsk_12 rfl (jGo (pc := 13) h dX4_isAsk_13 rfl (k9))))))))
set_option maxRecDepth 20000 in
theorem lX4_isAsk_0 (a1 : Int32) (m : qM) : tX4_isAsk_0 (wX4_isAsk_8 fX4_isAsk_8) (wX4_isAsk_9 fX4_isAsk_9) [some (.ref 58), some (.int a1)] [] m = fX4_isAsk_0 a1 m := rfl
noncomputable def GX4_isAsk : qG Int32 := fun av m => match av with
  | [.ref 58, .int a1] => fX4_isAsk a1 m
  | _ => none
theorem spX4_isAsk : qSpI yX4_isAsk (.code yX4_isAsk cX4_isAsk 2 (some .boolean)) 0 qfin 155 155 1 GX4_isAsk := by
  intro av m x m' hG
  unfold GX4_isAsk at hG
  split at hG
  · rename_i a1
    rw [fX4_isAsk_d] at hG
    exact ⟨qmeet (J := jI) (r := (x, m')) (av := [.ref 58, .int a1]) (by decide +kernel) (Nat.le_of_ble_eq_true rfl) (fun C w h hm hx hn => sX4_isAsk_0 h hm hx (bX4_isAsk_8 h hm hx) (bX4_isAsk_9 h hm hx)) ((lX4_isAsk_0 _ _).trans hG) (Nat.le_of_ble_eq_true rfl), Or.inl ⟨58, _, 4, _, _, rfl, by decide, rfl, qCk_4, rfl⟩⟩
  · cases hG
theorem dX3_walkBetween_0 : decode cX3_walkBetween 0 = .ok (.aload_n 0, 1) := by decide +kernel
theorem dX3_walkBetween_1 : decode cX3_walkBetween 1 = .ok (.getfield 36, 3) := by decide +kernel
theorem dX3_walkBetween_4 : decode cX3_walkBetween 4 = .ok (.iload_n 1, 1) := by decide +kernel
theorem dX3_walkBetween_5 : decode cX3_walkBetween 5 = .ok (.bipush 10, 2) := by decide +kernel
theorem dX3_walkBetween_7 : decode cX3_walkBetween 7 = .ok (.imul, 1) := by decide +kernel
theorem dX3_walkBetween_8 : decode cX3_walkBetween 8 = .ok (.iload_n 2, 1) := by decide +kernel
theorem dX3_walkBetween_9 : decode cX3_walkBetween 9 = .ok (.iadd, 1) := by decide +kernel
theorem dX3_walkBetween_10 : decode cX3_walkBetween 10 = .ok (.iaload, 1) := by decide +kernel
theorem dX3_walkBetween_11 : decode cX3_walkBetween 11 = .ok (.ireturn, 1) := by decide +kernel
noncomputable def tX3_walkBetween_0 : qT (Int32 × qM) :=
  oLa 0 (oGf 47 9 56 (oLi 1 (oC (.int (10 : Int32)) (o2 (· * ·) (oLi 2 (o2 (· + ·) (oAi 56 100 (eI))))))))
set_option maxRecDepth 20000 in
theorem sX3_walkBetween_0 {C : qCx} {w : qWp} (h : qOk C w RX3 cX3_walkBetween 3 0 155 155) (hm : qMt C (some .int)) (hx : qNx C) : qSnd C w 3 155 (qQf C w 155 155 jI) qfin 155 0 (tX3_walkBetween_0) :=
  cLa (pc := 0) h dX3_walkBetween_0 rfl (gGf (pc := 1) h dX3_walkBetween_1 ff_X3_36_47 (Nat.le_of_ble_eq_true rfl) (Nat.le_of_ble_eq_true rfl) rfl (cLi (pc := 4) h dX3_walkBetween_4 rfl (cB (pc := 5) h dX3_walkBetween_5 rfl (aMul (pc := 7) h dX3_walkBetween_7 (cLi (pc := 8) h dX3_walkBetween_8 rfl (aAdd (pc := 9) h dX3_walkBetween_9 (rAi (pc := 10) h dX3_walkBetween_10 rfl (Nat.le_of_ble_eq_true rfl) (Nat.le_of_ble_eq_true rfl) (zI (pc := 11) h hm (Nat.le_refl _) dX3_walkBetween_11))))))))
set_option maxRecDepth 20000 in
theorem lX3_walkBetween_0 (a1 : Int32) (a2 : Int32) (m : qM) : tX3_walkBetween_0 [some (.ref 47), some (.int a1), some (.int a2)] [] m = fX3_walkBetween_0 a1 a2 m := rfl
noncomputable def GX3_walkBetween : qG Int32 := fun av m => match av with
  | [.ref 47, .int a1, .int a2] => fX3_walkBetween a1 a2 m
  | _ => none
theorem spX3_walkBetween : qSpI yX3_walkBetween (.code yX3_walkBetween cX3_walkBetween 3 (some .int)) 0 qfin 155 155 1 GX3_walkBetween := by
  intro av m x m' hG
  unfold GX3_walkBetween at hG
  split at hG
  · rename_i a1 a2
    rw [fX3_walkBetween_d] at hG
    exact ⟨qmeet (J := jI) (r := (x, m')) (av := [.ref 47, .int a1, .int a2]) (by decide +kernel) (Nat.le_of_ble_eq_true rfl) (fun C w h hm hx hn => sX3_walkBetween_0 h hm hx) ((lX3_walkBetween_0 _ _ _).trans hG) (Nat.le_of_ble_eq_true rfl), Or.inl ⟨47, _, 3, _, _, rfl, by decide, rfl, qCk_3, rfl⟩⟩
  · cases hG

