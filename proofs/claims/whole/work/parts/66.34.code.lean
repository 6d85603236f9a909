/-! methods (by program): X13_readAct, X13_readPolicy, X13_lay, X13_feed, X13_end, X13_laidMany, X13_isFixed, X13_rules, X13_rule, X13_policy, X13_isTeacher, X13_follow, X13_fault, X13_isFamily, X13_isSlot, X13_areSlots, X13_room -/
theorem fs_X13_151 : (RX13, 151, "skip", 10121) ∈ qStr := by decide +kernel
theorem fs_X13_153 : (RX13, 153, "full", 10122) ∈ qStr := by decide +kernel
theorem fs_X13_155 : (RX13, 155, "wait", 10123) ∈ qStr := by decide +kernel
theorem fs_X13_157 : (RX13, 157, "swap", 10124) ∈ qStr := by decide +kernel
theorem fs_X13_159 : (RX13, 159, "short", 10125) ∈ qStr := by decide +kernel
theorem fs_X13_161 : (RX13, 161, "pause", 10126) ∈ qStr := by decide +kernel
theorem mf_X13_163 : Jvm.Cond.fieldLink RX13 163 (qTb 13 3).1 (qTb 13 3).2.1 (qTb 13 3).2.2.1 ∈ qTw := qm6 (List.mem_of_getElem? (i := 221) (by decide +kernel)) (by decide +kernel)
theorem ff_X13_163_98 : qFd RX13 163 98 13 3 3 := ⟨mf_X13_163, rfl, by decide, rfl⟩
theorem mf_X13_166 : Jvm.Cond.fieldLink RX13 166 (qTb 13 4).1 (qTb 13 4).2.1 (qTb 13 4).2.2.1 ∈ qTw := qm6 (List.mem_of_getElem? (i := 222) (by decide +kernel)) (by decide +kernel)
theorem ff_X13_166_98 : qFd RX13 166 98 13 4 3 := ⟨mf_X13_166, rfl, by decide, rfl⟩
theorem dX13_readAct_0 : decode cX13_readAct 0 = .ok (.aload_n 0, 1) := by decide +kernel
theorem dX13_readAct_1 : decode cX13_readAct 1 = .ok (.ldc 151, 2) := by decide +kernel
theorem dX13_readAct_3 : decode cX13_readAct 3 = .ok (.invokevirtual 54, 3) := by decide +kernel
theorem dX13_readAct_6 : decode cX13_readAct 6 = .ok (.ifCond .eq 7, 3) := by decide +kernel
theorem dX13_readAct_9 : decode cX13_readAct 9 = .ok (.iconst 0, 1) := by decide +kernel
theorem dX13_readAct_10 : decode cX13_readAct 10 = .ok (.goto 69, 3) := by decide +kernel
theorem dX13_readAct_13 : decode cX13_readAct 13 = .ok (.aload_n 0, 1) := by decide +kernel
theorem dX13_readAct_14 : decode cX13_readAct 14 = .ok (.ldc 153, 2) := by decide +kernel
theorem dX13_readAct_16 : decode cX13_readAct 16 = .ok (.invokevirtual 54, 3) := by decide +kernel
theorem dX13_readAct_19 : decode cX13_readAct 19 = .ok (.ifCond .eq 7, 3) := by decide +kernel
theorem dX13_readAct_22 : decode cX13_readAct 22 = .ok (.iconst 1, 1) := by decide +kernel
theorem dX13_readAct_23 : decode cX13_readAct 23 = .ok (.goto 56, 3) := by decide +kernel
theorem dX13_readAct_26 : decode cX13_readAct 26 = .ok (.aload_n 0, 1) := by decide +kernel
theorem dX13_readAct_27 : decode cX13_readAct 27 = .ok (.ldc 155, 2) := by decide +kernel
theorem dX13_readAct_29 : decode cX13_readAct 29 = .ok (.invokevirtual 54, 3) := by decide +kernel
theorem dX13_readAct_32 : decode cX13_readAct 32 = .ok (.ifCond .eq 7, 3) := by decide +kernel
theorem dX13_readAct_35 : decode cX13_readAct 35 = .ok (.iconst 2, 1) := by decide +kernel
theorem dX13_readAct_36 : decode cX13_readAct 36 = .ok (.goto 43, 3) := by decide +kernel
theorem dX13_readAct_39 : decode cX13_readAct 39 = .ok (.aload_n 0, 1) := by decide +kernel
theorem dX13_readAct_40 : decode cX13_readAct 40 = .ok (.ldc 157, 2) := by decide +kernel
theorem dX13_readAct_42 : decode cX13_readAct 42 = .ok (.invokevirtual 54, 3) := by decide +kernel
theorem dX13_readAct_45 : decode cX13_readAct 45 = .ok (.ifCond .eq 7, 3) := by decide +kernel
theorem dX13_readAct_48 : decode cX13_readAct 48 = .ok (.iconst 3, 1) := by decide +kernel
theorem dX13_readAct_49 : decode cX13_readAct 49 = .ok (.goto 30, 3) := by decide +kernel
theorem dX13_readAct_52 : decode cX13_readAct 52 = .ok (.aload_n 0, 1) := by decide +kernel
theorem dX13_readAct_53 : decode cX13_readAct 53 = .ok (.ldc 159, 2) := by decide +kernel
theorem dX13_readAct_55 : decode cX13_readAct 55 = .ok (.invokevirtual 54, 3) := by decide +kernel
theorem dX13_readAct_58 : decode cX13_readAct 58 = .ok (.ifCond .eq 7, 3) := by decide +kernel
theorem dX13_readAct_61 : decode cX13_readAct 61 = .ok (.iconst 4, 1) := by decide +kernel
theorem dX13_readAct_62 : decode cX13_readAct 62 = .ok (.goto 17, 3) := by decide +kernel
theorem dX13_readAct_65 : decode cX13_readAct 65 = .ok (.aload_n 0, 1) := by decide +kernel
theorem dX13_readAct_66 : decode cX13_readAct 66 = .ok (.ldc 161, 2) := by decide +kernel
theorem dX13_readAct_68 : decode cX13_readAct 68 = .ok (.invokevirtual 54, 3) := by decide +kernel
theorem dX13_readAct_71 : decode cX13_readAct 71 = .ok (.ifCond .eq 7, 3) := by decide +kernel
theorem dX13_readAct_74 : decode cX13_readAct 74 = .ok (.iconst 5, 1) := by decide +kernel
theorem dX13_readAct_75 : decode cX13_readAct 75 = .ok (.goto 4, 3) := by decide +kernel
theorem dX13_readAct_78 : decode cX13_readAct 78 = .ok (.iconst (-1), 1) := by decide +kernel
theorem dX13_readAct_79 : decode cX13_readAct 79 = .ok (.istore_n 2, 1) := by decide +kernel
theorem dX13_readAct_80 : decode cX13_readAct 80 = .ok (.iload_n 2, 1) := by decide +kernel
theorem dX13_readAct_81 : decode cX13_readAct 81 = .ok (.iconst (-1), 1) := by decide +kernel
theorem dX13_readAct_82 : decode cX13_readAct 82 = .ok (.if_icmp .ne 9, 3) := by decide +kernel
theorem dX13_readAct_85 : decode cX13_readAct 85 = .ok (.aload_n 0, 1) := by decide +kernel
theorem dX13_readAct_86 : decode cX13_readAct 86 = .ok (.iconst 1, 1) := by decide +kernel
theorem dX13_readAct_87 : decode cX13_readAct 87 = .ok (.invokevirtual 58, 3) := by decide +kernel
theorem dX13_readAct_90 : decode cX13_readAct 90 = .ok (.athrow, 1) := by decide +kernel
theorem dX13_readAct_91 : decode cX13_readAct 91 = .ok (.aload_n 0, 1) := by decide +kernel
theorem dX13_readAct_92 : decode cX13_readAct 92 = .ok (.invokevirtual 62, 3) := by decide +kernel
theorem dX13_readAct_95 : decode cX13_readAct 95 = .ok (.aload_n 0, 1) := by decide +kernel
theorem dX13_readAct_96 : decode cX13_readAct 96 = .ok (.getfield 163, 3) := by decide +kernel
theorem dX13_readAct_99 : decode cX13_readAct 99 = .ok (.iload_n 1, 1) := by decide +kernel
theorem dX13_readAct_100 : decode cX13_readAct 100 = .ok (.iload_n 2, 1) := by decide +kernel
theorem dX13_readAct_101 : decode cX13_readAct 101 = .ok (.iastore, 1) := by decide +kernel
theorem dX13_readAct_102 : decode cX13_readAct 102 = .ok (.aload_n 0, 1) := by decide +kernel
theorem dX13_readAct_103 : decode cX13_readAct 103 = .ok (.getfield 166, 3) := by decide +kernel
theorem dX13_readAct_106 : decode cX13_readAct 106 = .ok (.iload_n 1, 1) := by decide +kernel
theorem dX13_readAct_107 : decode cX13_readAct 107 = .ok (.iload_n 2, 1) := by decide +kernel
theorem dX13_readAct_108 : decode cX13_readAct 108 = .ok (.iconst 4, 1) := by decide +kernel
theorem dX13_readAct_109 : decode cX13_readAct 109 = .ok (.if_icmp .eq 8, 3) := by decide +kernel
theorem dX13_readAct_112 : decode cX13_readAct 112 = .ok (.iload_n 2, 1) := by decide +kernel
theorem dX13_readAct_113 : decode cX13_readAct 113 = .ok (.iconst 5, 1) := by decide +kernel
theorem dX13_readAct_114 : decode cX13_readAct 114 = .ok (.if_icmp .ne 13, 3) := by decide +kernel
theorem dX13_readAct_117 : decode cX13_readAct 117 = .ok (.aload_n 0, 1) := by decide +kernel
theorem dX13_readAct_118 : decode cX13_readAct 118 = .ok (.iconst 1, 1) := by decide +kernel
theorem dX13_readAct_119 : decode cX13_readAct 119 = .ok (.bipush 30, 2) := by decide +kernel
theorem dX13_readAct_121 : decode cX13_readAct 121 = .ok (.invokevirtual 99, 3) := by decide +kernel
theorem dX13_readAct_124 : decode cX13_readAct 124 = .ok (.goto 4, 3) := by decide +kernel
theorem dX13_readAct_127 : decode cX13_readAct 127 = .ok (.iconst 0, 1) := by decide +kernel
theorem dX13_readAct_128 : decode cX13_readAct 128 = .ok (.iastore, 1) := by decide +kernel
theorem dX13_readAct_129 : decode cX13_readAct 129 = .ok (.return_, 1) := by decide +kernel
noncomputable def tX13_readAct_67 : qT (Option Unit × qM) :=
  oWi 103 40 (eVX)
noncomputable def wX13_readAct_67 (k : Int32 → Int32 → qM → Option (Option Unit × qM)) : qT (Option Unit × qM) := fun lo st m => match lo, st with
  | [_, _, _], [.int s0, .int s1, .ref 103] => k s0 s1 m
  | _, _ => none
set_option maxRecDepth 20000 in
theorem sX13_readAct_67 {C : qCx} {w : qWp} (h : qOk C w RX13 cX13_readAct 3 5 155 155) (hm : qMt C none) (hx : qNx C) : qSnd C w 3 155 (qQf C w 155 155 jVX) qfin 155 128 (tX13_readAct_67) :=
  rWi (pc := 128) h dX13_readAct_128 rfl (Nat.le_of_ble_eq_true rfl) (Nat.le_of_ble_eq_true rfl) (zVX (pc := 129) h hm (Nat.le_refl _) dX13_readAct_129)
set_option maxRecDepth 20000 in
theorem lX13_readAct_67 (s0 : Int32) (s1 : Int32) (m : qM) : tX13_readAct_67 [none, none, none] [(.int s0), (.int s1), (.ref 103)] m = fX13_readAct_67 s0 s1 m := rfl
theorem bX13_readAct_67 {C : qCx} {w : qWp} (h : qOk C w RX13 cX13_readAct 3 5 155 155) (hm : qMt C none) (hx : qNx C) : qSnd C w 3 155 (qQf C w 155 155 jVX) qfin 155 128 (wX13_readAct_67 fX13_readAct_67) :=
  qSnd_of (fun lo st m x hr0 => by
    unfold wX13_readAct_67 at hr0
    split at hr0
    · exact ⟨_, (qsub_n (qsub_n (qsub_n qsub_nil))), (lX13_readAct_67 _ _ _).trans hr0⟩
    · cases hr0) (sX13_readAct_67 h hm hx)
noncomputable def tX13_readAct_61 (j67 : qT (Option Unit × qM)) : qT (Option Unit × qM) :=
  oLa 0 (oC (.int (1 : Int32)) (oC (.int (30 : Int32)) (oCiX GX13_number 3 (j67) eXv)))
noncomputable def wX13_readAct_61 (k : Int32 → qM → Option (Option Unit × qM)) : qT (Option Unit × qM) := fun lo st m => match lo, st with
  | [some (.ref 98), _, _], [.int s0, .ref 103] => k s0 m
  | _, _ => none
set_option maxRecDepth 20000 in
theorem sX13_readAct_61 {C : qCx} {w : qWp} (h : qOk C w RX13 cX13_readAct 3 5 155 155) (hm : qMt C none) (hx : qNx C) {j67 : qT (Option Unit × qM)} (k67 : qSnd C w 3 155 (qQf C w 155 155 jVX) qfin 155 128 j67) : qSnd C w 3 155 (qQf C w 155 155 jVX) qfin 155 117 (tX13_readAct_61 j67) :=
  cLa (pc := 117) h dX13_readAct_117 rfl (cC (pc := 118) h dX13_readAct_118 rfl (cB (pc := 119) h dX13_readAct_119 rfl (kCiX (pc := 121) h (kd_X13_99 h dX13_readAct_121) spX13_number (by decide) (by decide) (by decide) (by decide) (jGo (pc := 124) h dX13_readAct_124 rfl (k67)) (zX2 (pc := 121) eXv_J h hm hx (Nat.le_refl _)))))
set_option maxRecDepth 20000 in
theorem lX13_readAct_61 (s0 : Int32) (m : qM) : tX13_readAct_61 (wX13_readAct_67 fX13_readAct_67) [some (.ref 98), none, none] [(.int s0), (.ref 103)] m = fX13_readAct_61 s0 m := rfl
theorem bX13_readAct_61 {C : qCx} {w : qWp} (h : qOk C w RX13 cX13_readAct 3 5 155 155) (hm : qMt C none) (hx : qNx C) : qSnd C w 3 155 (qQf C w 155 155 jVX) qfin 155 117 (wX13_readAct_61 fX13_readAct_61) :=
  qSnd_of (fun lo st m x hr0 => by
    unfold wX13_readAct_61 at hr0
    split at hr0
    · exact ⟨_, (qsub_e (qsub_n (qsub_n qsub_nil))), (lX13_readAct_61 _ _).trans hr0⟩
    · cases hr0) (sX13_readAct_61 h hm hx (bX13_readAct_67 h hm hx))
noncomputable def tX13_readAct_37 (j61 : qT (Option Unit × qM)) (j67 : qT (Option Unit × qM)) : qT (Option Unit × qM) :=
  oSi 2 (oLi 2 (oC (.int (-1 : Int32)) (oCEq (oLa 0 (oC (.int (1 : Int32)) (oCr GX13_wrong 2 (eTv)))) (oLa 0 (oCv GX13_scan 1 (oLa 0 (oGf 98 3 102 (oLi 1 (oLi 2 (oWi 102 40 (oLa 0 (oGf 98 4 103 (oLi 1 (oLi 2 (oC (.int (4 : Int32)) (oCEq (j61) (oLi 2 (oC (.int (5 : Int32)) (oCEq (j61) (oC (.int (0 : Int32)) (j67)))))))))))))))))))))
noncomputable def wX13_readAct_37 (k : Int32 → Int32 → qM → Option (Option Unit × qM)) : qT (Option Unit × qM) := fun lo st m => match lo, st with
  | [some (.ref 98), some (.int a1), _], [.int s0] => k a1 s0 m
  | _, _ => none
set_option maxRecDepth 20000 in
theorem sX13_readAct_37 {C : qCx} {w : qWp} (h : qOk C w RX13 cX13_readAct 3 5 155 155) (hm : qMt C none) (hx : qNx C) {j61 : qT (Option Unit × qM)} {j67 : qT (Option Unit × qM)} (k61 : qSnd C w 3 155 (qQf C w 155 155 jVX) qfin 155 117 j61) (k67 : qSnd C w 3 155 (qQf C w 155 155 jVX) qfin 155 128 j67) : qSnd C w 3 155 (qQf C w 155 155 jVX) qfin 155 79 (tX13_readAct_37 j61 j67) :=
  cSi (pc := 79) h dX13_readAct_79 rfl (cLi (pc := 80) h dX13_readAct_80 rfl (cC (pc := 81) h dX13_readAct_81 rfl (jCNe (pc := 82) h dX13_readAct_82 rfl (cLa (pc := 91) h dX13_readAct_91 rfl (kCv (pc := 92) h (kd_X13_62 h dX13_readAct_92) spX13_scan (by decide) (by decide) (by decide) (by decide) (cLa (pc := 95) h dX13_readAct_95 rfl (gGf (pc := 96) h dX13_readAct_96 ff_X13_163_98 (Nat.le_of_ble_eq_true rfl) (Nat.le_of_ble_eq_true rfl) rfl (cLi (pc := 99) h dX13_readAct_99 rfl (cLi (pc := 100) h dX13_readAct_100 rfl (rWi (pc := 101) h dX13_readAct_101 rfl (Nat.le_of_ble_eq_true rfl) (Nat.le_of_ble_eq_true rfl) (cLa (pc := 102) h dX13_readAct_102 rfl (gGf (pc := 103) h dX13_readAct_103 ff_X13_166_98 (Nat.le_of_ble_eq_true rfl) (Nat.le_of_ble_eq_true rfl) rfl (cLi (pc := 106) h dX13_readAct_106 rfl (cLi (pc := 107) h dX13_readAct_107 rfl (cC (pc := 108) h dX13_readAct_108 rfl (jCEq (pc := 109) h dX13_readAct_109 rfl (k61) (cLi (pc := 112) h dX13_readAct_112 rfl (cC (pc := 113) h dX13_readAct_113 rfl (jCNe (pc := 114) h dX13_readAct_114 rfl (cC (pc := 127) h dX13_readAct_127 rfl (k67)) (k61))))))))))))))))) (cLa (pc := 85) h dX13_readAct_85 rfl (cC (pc := 86) h dX13_readAct_86 rfl (kCr (pc := 87) h (kd_X13_58 h dX13_readAct_87) spX13_wrong (by decide) (by decide) (by decide) (by decide) (zT2 (pc := 90) eTv_J h hm hx (Nat.le_refl _) (by decide) (by decide) dX13_readAct_90)))))))
set_option maxRecDepth 20000 in
theorem lX13_readAct_37 (a1 : Int32) (s0 : Int32) (m : qM) : tX13_readAct_37 (wX13_readAct_61 fX13_readAct_61) (wX13_readAct_67 fX13_readAct_67) [some (.ref 98), some (.int a1), none] [(.int s0)] m = fX13_readAct_37 a1 s0 m := rfl
theorem bX13_readAct_37 {C : qCx} {w : qWp} (h : qOk C w RX13 cX13_readAct 3 5 155 155) (hm : qMt C none) (hx : qNx C) : qSnd C w 3 155 (qQf C w 155 155 jVX) qfin 155 79 (wX13_readAct_37 fX13_readAct_37) :=
  qSnd_of (fun lo st m x hr0 => by
    unfold wX13_readAct_37 at hr0
    split at hr0
    · exact ⟨_, (qsub_e (qsub_e (qsub_n qsub_nil))), (lX13_readAct_37 _ _ _).trans hr0⟩
    · cases hr0) (sX13_readAct_37 h hm hx (bX13_readAct_61 h hm hx) (bX13_readAct_67 h hm hx))
noncomputable def tX13_readAct_0 (j37 : qT (Option Unit × qM)) : qT (Option Unit × qM) :=
  oLa 0 (oC (.ref 10121) (oCi GX13_is 2 (oEq (oLa 0 (oC (.ref 10122) (oCi GX13_is 2 (oEq (oLa 0 (oC (.ref 10123) (oCi GX13_is 2 (oEq (oLa 0 (oC (.ref 10124) (oCi GX13_is 2 (oEq (oLa 0 (oC (.ref 10125) (oCi GX13_is 2 (oEq (oLa 0 (oC (.ref 10126) (oCi GX13_is 2 (oEq (oC (.int (-1 : Int32)) (j37)) (oC (.int (5 : Int32)) (j37)))))) (oC (.int (4 : Int32)) (j37)))))) (oC (.int (3 : Int32)) (j37)))))) (oC (.int (2 : Int32)) (j37)))))) (oC (.int (1 : Int32)) (j37)))))) (oC (.int (0 : Int32)) (j37)))))
set_option maxRecDepth 20000 in
theorem sX13_readAct_0 {C : qCx} {w : qWp} (h : qOk C w RX13 cX13_readAct 3 5 155 155) (hm : qMt C none) (hx : qNx C) {j37 : qT (Option Unit × qM)} (k37 : qSnd C w 3 155 (qQf C w 155 155 jVX) qfin 155 79 j37) : qSnd C w 3 155 (qQf C w 155 155 jVX) qfin 155 0 (tX13_readAct_0 j37) :=
  cLa (pc := 0) h dX13_readAct_0 rfl (cStr (pc := 1) h dX13_readAct_1 fs_X13_151 (kCi (pc := 3) h (kd_X13_54 h dX13_readAct_3) spX13_is (by decide) (by decide) (by decide) (by decide) (jEq (pc := 6) h dX13_readAct_6 rfl (cLa (pc := 13) h dX13_readAct_13 rfl (cStr (pc := 14) h dX13_readAct_14 fs_X13_153 (kCi (pc := 16) h (kd_X13_54 h dX13_readAct_16) spX13_is (by decide) (by decide) (by decide) (by decide) (jEq (pc := 19) h dX13_readAct_19 rfl (cLa (pc := 26) h dX13_readAct_26 rfl (cStr (pc := 27) h dX13_readAct_27 fs_X13_155 (kCi (pc := 29) h (kd_X13_54 h dX13_readAct_29) spX13_is (by decide) (by decide) (by decide) (by decide) (jEq (pc := 32) h dX13_readAct_32 rfl (cLa (pc := 39) h dX13_readAct_39 rfl (cStr (pc := 40) h dX13_readAct_40 fs_X13_157 (kCi (pc := 42) h (kd_X13_54 h dX13_readAct_42) spX13_is (by decide) (by decide) (by decide) (by decide) (jEq (pc := 45) h dX13_readAct_45 rfl (cLa (pc := 52) h dX13_readAct_52 rfl (cStr (pc := 53) h dX13_readAct_53 fs_X13_159 (kCi (pc := 55) h (kd_X13_54 h dX13_readAct_55) spX13_is (by decide) (by decide) (by decide) (by decide) (jEq (pc := 58) h dX13_readAct_58 rfl (cLa (pc := 65) h dX13_readAct_65 rfl (cStr (pc := 66) h dX13_readAct_66 fs_X13_161 (kCi (pc := 68) h (kd_X13_54 h dX13_readAct_68) spX13_is (by decide) (by decide) (by decide) (by decide) (jEq (pc := 71) h dX13_readAct_71 rfl (cC (pc := 78) h dX13_readAct_78 rfl (k37)) (cC (pc := 74) h dX13_readAct_74 rfl (jGo (pc := 75) h dX13_readAct_75 rfl (k37))))))) (cC (pc := 61) h dX13_readAct_61 rfl (jGo (pc := 62) h dX13_readAct_62 rfl (k37))))))) (cC (pc := 48) h dX13_readAct_48 rfl (jGo (pc := 49) h dX13_readAct_49 rfl (k37))))))) (cC (pc := 35) h dX13_readAct_35 rfl (jGo (pc := 36) h dX13_readAct_36 rfl (k37))))))) (cC (pc := 22) h dX13_readAct_22 rfl (jGo (pc := 23) h dX13_readAct_23 rfl (k37))))))) (cC (pc := 9) h dX13_readAct_9 rfl (jGo (pc := 10) h dX13_readAct_10 rfl (k37))))))
set_option maxRecDepth 20000 in
theorem lX13_readAct_0 (a1 : Int32) (m : qM) : tX13_readAct_0 (wX13_readAct_37 fX13_readAct_37) [some (.ref 98), some (.int a1), none] [] m = fX13_readAct_0 a1 m := rfl
noncomputable def GX13_readAct : qG (Option Unit) := fun av m => match av with
  | [.ref 98, .int a1] => fX13_readAct a1 m
  | _ => none
theorem spX13_readAct : qSpVX yX13_readAct (.code yX13_readAct cX13_readAct 3 none) 5 qfin 155 155 1 GX13_readAct := by
  intro av m x m' hG
  unfold GX13_readAct at hG
  split at hG
  · rename_i a1
    rw [fX13_readAct_d] at hG
    exact ⟨qmeet (J := jVX) (r := (x, m')) (av := [.ref 98, .int a1]) (by decide +kernel) (Nat.le_of_ble_eq_true rfl) (fun C w h hm hx hn => sX13_readAct_0 h hm hx (bX13_readAct_37 h hm hx)) ((lX13_readAct_0 _ _).trans hG) (Nat.le_of_ble_eq_true rfl), Or.inl ⟨98, _, 13, _, _, rfl, by decide, rfl, qCk_13, rfl⟩⟩
  · cases hG
theorem mf_X13_106 : Jvm.Cond.fieldLink RX13 106 (qTb 13 2).1 (qTb 13 2).2.1 (qTb 13 2).2.2.1 ∈ qTw := qm6 (List.mem_of_getElem? (i := 220) (by decide +kernel)) (by decide +kernel)
theorem ff_X13_106_98 : qFd RX13 106 98 13 2 3 := ⟨mf_X13_106, rfl, by decide, rfl⟩
theorem fs_X13_109 : (RX13, 109, "when", 10101) ∈ qStr := by decide +kernel
theorem im_X13_readCond : Jvm.Cond.instanceMethod yX13_readCond ∈ qTw := qm8 (List.mem_of_getElem? (i := 64) (by decide +kernel)) (by decide +kernel)
theorem se_X13_readCond : Jvm.Cond.selects yX13_readCond.cls yX13_readCond yX13_readCond ∈ qTw := List.mem_filter.mpr ⟨List.mem_append_left _ (List.mem_of_getElem? (i := 49) (by decide +kernel)), rfl⟩
theorem co_X13_readCond : Jvm.Cond.code yX13_readCond cX13_readCond 5 none ∈ qTw := qm8 (List.mem_of_getElem? (i := 65) (by decide +kernel)) (by decide +kernel)
theorem yk_X13_readCond : qYk yX13_readCond 1 := ⟨⟨by decide +kernel, by decide +kernel⟩, by decide +kernel⟩
theorem ml_X13_114 : Jvm.Cond.methodLink RX13 114 yX13_readCond ∈ qTw := qm8 (List.mem_of_getElem? (i := 62) (by decide +kernel)) (by decide +kernel)
theorem kd_X13_114 {C : qCx} {w : qWp} {cc : ByteArray} {nL dp n0 n1 pc : Nat} (h : qOk C w RX13 cc nL dp n0 n1) (d : decode cc pc = .ok (.invokevirtual 114, 3)) : qCallOk C w nL dp n0 n1 pc 2 1 yX13_readCond (.code yX13_readCond cX13_readCond 5 none) := kindV h d ml_X13_114 im_X13_readCond se_X13_readCond in_ParentEveModel co_X13_readCond yk_X13_readCond (by decide)
theorem fs_X13_118 : (RX13, 118, "and", 10119) ∈ qStr := by decide +kernel
theorem fs_X13_120 : (RX13, 120, "do", 10120) ∈ qStr := by decide +kernel
theorem im_X13_need : Jvm.Cond.instanceMethod yX13_need ∈ qTw := qm8 (List.mem_of_getElem? (i := 77) (by decide +kernel)) (by decide +kernel)
theorem se_X13_need : Jvm.Cond.selects yX13_need.cls yX13_need yX13_need ∈ qTw := List.mem_filter.mpr ⟨List.mem_append_left _ (List.mem_of_getElem? (i := 50) (by decide +kernel)), rfl⟩
theorem co_X13_need : Jvm.Cond.code yX13_need cX13_need 2 none ∈ qTw := qm8 (List.mem_of_getElem? (i := 78) (by decide +kernel)) (by decide +kernel)
theorem yk_X13_need : qYk yX13_need 1 := ⟨⟨by decide +kernel, by decide +kernel⟩, by decide +kernel⟩
theorem ml_X13_122 : Jvm.Cond.methodLink RX13 122 yX13_need ∈ qTw := qm8 (List.mem_of_getElem? (i := 75) (by decide +kernel)) (by decide +kernel)
theorem kd_X13_122 {C : qCx} {w : qWp} {cc : ByteArray} {nL dp n0 n1 pc : Nat} (h : qOk C w RX13 cc nL dp n0 n1) (d : decode cc pc = .ok (.invokevirtual 122, 3)) : qCallOk C w nL dp n0 n1 pc 2 1 yX13_need (.code yX13_need cX13_need 2 none) := kindV h d ml_X13_122 im_X13_need se_X13_need in_ParentEveModel co_X13_need yk_X13_need (by decide)
theorem im_X13_readAct : Jvm.Cond.instanceMethod yX13_readAct ∈ qTw := qm8 (List.mem_of_getElem? (i := 81) (by decide +kernel)) (by decide +kernel)
theorem se_X13_readAct : Jvm.Cond.selects yX13_readAct.cls yX13_readAct yX13_readAct ∈ qTw := List.mem_filter.mpr ⟨List.mem_append_left _ (List.mem_of_getElem? (i := 51) (by decide +kernel)), rfl⟩
theorem co_X13_readAct : Jvm.Cond.code yX13_readAct cX13_readAct 3 none ∈ qTw := qm8 (List.mem_of_getElem? (i := 82) (by decide +kernel)) (by decide +kernel)
theorem yk_X13_readAct : qYk yX13_readAct 1 := ⟨⟨by decide +kernel, by decide +kernel⟩, by decide +kernel⟩
theorem ml_X13_126 : Jvm.Cond.methodLink RX13 126 yX13_readAct ∈ qTw := qm8 (List.mem_of_getElem? (i := 79) (by decide +kernel)) (by decide +kernel)
theorem kd_X13_126 {C : qCx} {w : qWp} {cc : ByteArray} {nL dp n0 n1 pc : Nat} (h : qOk C w RX13 cc nL dp n0 n1) (d : decode cc pc = .ok (.invokevirtual 126, 3)) : qCallOk C w nL dp n0 n1 pc 2 1 yX13_readAct (.code yX13_readAct cX13_readAct 3 none) := kindV h d ml_X13_126 im_X13_readAct se_X13_readAct in_ParentEveModel co_X13_readAct yk_X13_readAct (by decide)
theorem dX13_readPolicy_0 : decode cX13_readPolicy 0 = .ok (.aload_n 0, 1) := by decide +kernel
theorem dX13_readPolicy_1 : decode cX13_readPolicy 1 = .ok (.getfield 106, 3) := by decide +kernel
theorem dX13_readPolicy_4 : decode cX13_readPolicy 4 = .ok (.iconst 4, 1) := by decide +kernel
theorem dX13_readPolicy_5 : decode cX13_readPolicy 5 = .ok (.iconst 0, 1) := by decide +kernel
theorem dX13_readPolicy_6 : decode cX13_readPolicy 6 = .ok (.iastore, 1) := by decide +kernel
theorem dX13_readPolicy_7 : decode cX13_readPolicy 7 = .ok (.aload_n 0, 1) := by decide +kernel
theorem dX13_readPolicy_8 : decode cX13_readPolicy 8 = .ok (.getfield 31, 3) := by decide +kernel
theorem dX13_readPolicy_11 : decode cX13_readPolicy 11 = .ok (.ifCond .eq 126, 3) := by decide +kernel
theorem dX13_readPolicy_14 : decode cX13_readPolicy 14 = .ok (.aload_n 0, 1) := by decide +kernel
theorem dX13_readPolicy_15 : decode cX13_readPolicy 15 = .ok (.ldc 109, 2) := by decide +kernel
theorem dX13_readPolicy_17 : decode cX13_readPolicy 17 = .ok (.invokevirtual 54, 3) := by decide +kernel
theorem dX13_readPolicy_20 : decode cX13_readPolicy 20 = .ok (.ifCond .ne 9, 3) := by decide +kernel
theorem dX13_readPolicy_23 : decode cX13_readPolicy 23 = .ok (.aload_n 0, 1) := by decide +kernel
theorem dX13_readPolicy_24 : decode cX13_readPolicy 24 = .ok (.iconst 1, 1) := by decide +kernel
theorem dX13_readPolicy_25 : decode cX13_readPolicy 25 = .ok (.invokevirtual 58, 3) := by decide +kernel
theorem dX13_readPolicy_28 : decode cX13_readPolicy 28 = .ok (.athrow, 1) := by decide +kernel
theorem dX13_readPolicy_29 : decode cX13_readPolicy 29 = .ok (.aload_n 0, 1) := by decide +kernel
theorem dX13_readPolicy_30 : decode cX13_readPolicy 30 = .ok (.getfield 106, 3) := by decide +kernel
theorem dX13_readPolicy_33 : decode cX13_readPolicy 33 = .ok (.iconst 4, 1) := by decide +kernel
theorem dX13_readPolicy_34 : decode cX13_readPolicy 34 = .ok (.iaload, 1) := by decide +kernel
theorem dX13_readPolicy_35 : decode cX13_readPolicy 35 = .ok (.bipush 8, 2) := by decide +kernel
theorem dX13_readPolicy_37 : decode cX13_readPolicy 37 = .ok (.if_icmp .ne 9, 3) := by decide +kernel
theorem dX13_readPolicy_40 : decode cX13_readPolicy 40 = .ok (.aload_n 0, 1) := by decide +kernel
theorem dX13_readPolicy_41 : decode cX13_readPolicy 41 = .ok (.iconst 4, 1) := by decide +kernel
theorem dX13_readPolicy_42 : decode cX13_readPolicy 42 = .ok (.invokevirtual 58, 3) := by decide +kernel
theorem dX13_readPolicy_45 : decode cX13_readPolicy 45 = .ok (.athrow, 1) := by decide +kernel
theorem dX13_readPolicy_46 : decode cX13_readPolicy 46 = .ok (.bipush 32, 2) := by decide +kernel
theorem dX13_readPolicy_48 : decode cX13_readPolicy 48 = .ok (.aload_n 0, 1) := by decide +kernel
theorem dX13_readPolicy_49 : decode cX13_readPolicy 49 = .ok (.getfield 106, 3) := by decide +kernel
theorem dX13_readPolicy_52 : decode cX13_readPolicy 52 = .ok (.iconst 4, 1) := by decide +kernel
theorem dX13_readPolicy_53 : decode cX13_readPolicy 53 = .ok (.iaload, 1) := by decide +kernel
theorem dX13_readPolicy_54 : decode cX13_readPolicy 54 = .ok (.iadd, 1) := by decide +kernel
theorem dX13_readPolicy_55 : decode cX13_readPolicy 55 = .ok (.istore_n 1, 1) := by decide +kernel
theorem dX13_readPolicy_56 : decode cX13_readPolicy 56 = .ok (.aload_n 0, 1) := by decide +kernel
theorem dX13_readPolicy_57 : decode cX13_readPolicy 57 = .ok (.getfield 111, 3) := by decide +kernel
theorem dX13_readPolicy_60 : decode cX13_readPolicy 60 = .ok (.iload_n 1, 1) := by decide +kernel
theorem dX13_readPolicy_61 : decode cX13_readPolicy 61 = .ok (.iconst 0, 1) := by decide +kernel
theorem dX13_readPolicy_62 : decode cX13_readPolicy 62 = .ok (.iastore, 1) := by decide +kernel
theorem dX13_readPolicy_63 : decode cX13_readPolicy 63 = .ok (.aload_n 0, 1) := by decide +kernel
theorem dX13_readPolicy_64 : decode cX13_readPolicy 64 = .ok (.invokevirtual 62, 3) := by decide +kernel
theorem dX13_readPolicy_67 : decode cX13_readPolicy 67 = .ok (.aload_n 0, 1) := by decide +kernel
theorem dX13_readPolicy_68 : decode cX13_readPolicy 68 = .ok (.iload_n 1, 1) := by decide +kernel
theorem dX13_readPolicy_69 : decode cX13_readPolicy 69 = .ok (.invokevirtual 114, 3) := by decide +kernel
theorem dX13_readPolicy_72 : decode cX13_readPolicy 72 = .ok (.aload_n 0, 1) := by decide +kernel
theorem dX13_readPolicy_73 : decode cX13_readPolicy 73 = .ok (.ldc 118, 2) := by decide +kernel
theorem dX13_readPolicy_75 : decode cX13_readPolicy 75 = .ok (.invokevirtual 54, 3) := by decide +kernel
theorem dX13_readPolicy_78 : decode cX13_readPolicy 78 = .ok (.ifCond .eq 31, 3) := by decide +kernel
theorem dX13_readPolicy_81 : decode cX13_readPolicy 81 = .ok (.aload_n 0, 1) := by decide +kernel
theorem dX13_readPolicy_82 : decode cX13_readPolicy 82 = .ok (.getfield 111, 3) := by decide +kernel
theorem dX13_readPolicy_85 : decode cX13_readPolicy 85 = .ok (.iload_n 1, 1) := by decide +kernel
theorem dX13_readPolicy_86 : decode cX13_readPolicy 86 = .ok (.iaload, 1) := by decide +kernel
theorem dX13_readPolicy_87 : decode cX13_readPolicy 87 = .ok (.iconst 4, 1) := by decide +kernel
theorem dX13_readPolicy_88 : decode cX13_readPolicy 88 = .ok (.if_icmp .ne 9, 3) := by decide +kernel
theorem dX13_readPolicy_91 : decode cX13_readPolicy 91 = .ok (.aload_n 0, 1) := by decide +kernel
theorem dX13_readPolicy_92 : decode cX13_readPolicy 92 = .ok (.iconst 4, 1) := by decide +kernel
theorem dX13_readPolicy_93 : decode cX13_readPolicy 93 = .ok (.invokevirtual 58, 3) := by decide +kernel
theorem dX13_readPolicy_96 : decode cX13_readPolicy 96 = .ok (.athrow, 1) := by decide +kernel
theorem dX13_readPolicy_97 : decode cX13_readPolicy 97 = .ok (.aload_n 0, 1) := by decide +kernel
theorem dX13_readPolicy_98 : decode cX13_readPolicy 98 = .ok (.invokevirtual 62, 3) := by decide +kernel
theorem dX13_readPolicy_101 : decode cX13_readPolicy 101 = .ok (.aload_n 0, 1) := by decide +kernel
theorem dX13_readPolicy_102 : decode cX13_readPolicy 102 = .ok (.iload_n 1, 1) := by decide +kernel
theorem dX13_readPolicy_103 : decode cX13_readPolicy 103 = .ok (.invokevirtual 114, 3) := by decide +kernel
theorem dX13_readPolicy_106 : decode cX13_readPolicy 106 = .ok (.goto (-34), 3) := by decide +kernel
theorem dX13_readPolicy_109 : decode cX13_readPolicy 109 = .ok (.aload_n 0, 1) := by decide +kernel
theorem dX13_readPolicy_110 : decode cX13_readPolicy 110 = .ok (.ldc 120, 2) := by decide +kernel
theorem dX13_readPolicy_112 : decode cX13_readPolicy 112 = .ok (.invokevirtual 122, 3) := by decide +kernel
theorem dX13_readPolicy_115 : decode cX13_readPolicy 115 = .ok (.aload_n 0, 1) := by decide +kernel
theorem dX13_readPolicy_116 : decode cX13_readPolicy 116 = .ok (.iload_n 1, 1) := by decide +kernel
theorem dX13_readPolicy_117 : decode cX13_readPolicy 117 = .ok (.invokevirtual 126, 3) := by decide +kernel
theorem dX13_readPolicy_120 : decode cX13_readPolicy 120 = .ok (.aload_n 0, 1) := by decide +kernel
theorem dX13_readPolicy_121 : decode cX13_readPolicy 121 = .ok (.invokevirtual 103, 3) := by decide +kernel
theorem dX13_readPolicy_124 : decode cX13_readPolicy 124 = .ok (.aload_n 0, 1) := by decide +kernel
theorem dX13_readPolicy_125 : decode cX13_readPolicy 125 = .ok (.getfield 106, 3) := by decide +kernel
theorem dX13_readPolicy_128 : decode cX13_readPolicy 128 = .ok (.iconst 4, 1) := by decide +kernel
theorem dX13_readPolicy_129 : decode cX13_readPolicy 129 = .ok (.dup2, 1) := by decide +kernel
theorem dX13_readPolicy_130 : decode cX13_readPolicy 130 = .ok (.iaload, 1) := by decide +kernel
theorem dX13_readPolicy_131 : decode cX13_readPolicy 131 = .ok (.iconst 1, 1) := by decide +kernel
theorem dX13_readPolicy_132 : decode cX13_readPolicy 132 = .ok (.iadd, 1) := by decide +kernel
theorem dX13_readPolicy_133 : decode cX13_readPolicy 133 = .ok (.iastore, 1) := by decide +kernel
theorem dX13_readPolicy_134 : decode cX13_readPolicy 134 = .ok (.goto (-127), 3) := by decide +kernel
theorem dX13_readPolicy_137 : decode cX13_readPolicy 137 = .ok (.aload_n 0, 1) := by decide +kernel
theorem dX13_readPolicy_138 : decode cX13_readPolicy 138 = .ok (.getfield 106, 3) := by decide +kernel
theorem dX13_readPolicy_141 : decode cX13_readPolicy 141 = .ok (.iconst 4, 1) := by decide +kernel
theorem dX13_readPolicy_142 : decode cX13_readPolicy 142 = .ok (.iaload, 1) := by decide +kernel
theorem dX13_readPolicy_143 : decode cX13_readPolicy 143 = .ok (.ireturn, 1) := by decide +kernel
noncomputable def tX13_readPolicy_43 (j5 : qT (Option Int32 × qM)) (j43 : qT (Option Int32 × qM)) : qT (Option Int32 × qM) :=
  oLa 0 (oC (.ref 10119) (oCi GX13_is 2 (oEq (oLa 0 (oC (.ref 10120) (oCvX GX13_need 2 (oLa 0 (oLi 1 (oCvX GX13_readAct 2 (oLa 0 (oCvX GX13_close 1 (oLa 0 (oGf 98 2 101 (oC (.int (4 : Int32)) (oDup2 (oAi 101 5 (oC (.int (1 : Int32)) (o2 (· + ·) (oWi 101 5 (j5))))))))) eXi)) eXi))) eXi))) (oLa 0 (oGf 98 5 104 (oLi 1 (oAi 104 40 (oC (.int (4 : Int32)) (oCEq (oLa 0 (oC (.int (4 : Int32)) (oCr GX13_wrong 2 (eTi)))) (oLa 0 (oCv GX13_scan 1 (oLa 0 (oLi 1 (oCvX GX13_readCond 2 (j43) eXi))))))))))))))
noncomputable def wX13_readPolicy_43 (k : Int32 → qM → Option (Option Int32 × qM)) : qT (Option Int32 × qM) := fun lo st m => match lo, st with
  | [some (.ref 98), some (.int a1)], [] => k a1 m
  | _, _ => none
noncomputable def wX13_readPolicy_5 (k : qM → Option (Option Int32 × qM)) : qT (Option Int32 × qM) := fun lo st m => match lo, st with
  | [some (.ref 98), _], [] => k m
  | _, _ => none
set_option maxRecDepth 20000 in
theorem sX13_readPolicy_43 {C : qCx} {w : qWp} (h : qOk C w RX13 cX13_readPolicy 2 6 155 155) (hm : qMt C (some .int)) (hx : qNx C) {j5 : qT (Option Int32 × qM)} {j43 : qT (Option Int32 × qM)} (k5 : qSnd C w 2 155 (qQf C w 155 155 jIX) qfin 155 7 j5) (k43 : qSnd C w 2 155 (qQf C w 155 155 jIX) qfin 155 72 j43) : qSnd C w 2 155 (qQf C w 155 155 jIX) qfin 155 72 (tX13_readPolicy_43 j5 j43) :=
  cLa (pc := 72) h dX13_readPolicy_72 rfl (cStr (pc := 73) h dX13_readPolicy_73 fs_X13_118 (kCi (pc := 75) h (kd_X13_54 h dX13_readPolicy_75) spX13_is (by decide) (by decide) (by decide) (by decide) (jEq (pc := 78) h dX13_readPolicy_78 rfl (cLa (pc := 109) h dX13_readPolicy_109 rfl (cStr (pc := 110) h dX13_readPolicy_110 fs_X13_120 (kCvX (pc := 112) h (kd_X13_122 h dX13_readPolicy_112) spX13_need (by decide) (by decide) (by decide) (by decide) (cLa (pc := 115) h dX13_readPolicy_115 rfl (cLi (pc := 116) h dX13_readPolicy_116 rfl (kCvX (pc := 117) h (kd_X13_126 h dX13_readPolicy_117) spX13_readAct (by decide) (by decide) (by decide) (by decide) (cLa (pc := 120) h dX13_readPolicy_120 rfl (kCvX (pc := 121) h (kd_X13_103 h dX13_readPolicy_121) spX13_close (by decide) (by decide) (by decide) (by decide) (cLa (pc := 124) h dX13_readPolicy_124 rfl (gGf (pc := 125) h dX13_readPolicy_125 ff_X13_106_98 (Nat.le_of_ble_eq_true rfl) (Nat.le_of_ble_eq_true rfl) rfl (cC (pc := 128) h dX13_readPolicy_128 rfl (aDup2 (pc := 129) h dX13_readPolicy_129 (rAi (pc := 130) h dX13_readPolicy_130 rfl (Nat.le_of_ble_eq_true rfl) (Nat.le_of_ble_eq_true rfl) (cC (pc := 131) h dX13_readPolicy_131 rfl (aAdd (pc := 132) h dX13_readPolicy_132 (rWi (pc := 133) h dX13_readPolicy_133 rfl (Nat.le_of_ble_eq_true rfl) (Nat.le_of_ble_eq_true rfl) (jGo (pc := 134) h dX13_readPolicy_134 rfl (k5)))))))))) (zX2 (pc := 121) eXi_J h hm hx (Nat.le_refl _)))) (zX2 (pc := 117) eXi_J h hm hx (Nat.le_refl _))))) (zX2 (pc := 112) eXi_J h hm hx (Nat.le_refl _))))) (cLa (pc := 81) h dX13_readPolicy_81 rfl (gGf (pc := 82) h dX13_readPolicy_82 ff_X13_111_98 (Nat.le_of_ble_eq_true rfl) (Nat.le_of_ble_eq_true rfl) rfl (cLi (pc := 85) h dX13_readPolicy_85 rfl (rAi (pc := 86) h dX13_readPolicy_86 rfl (Nat.le_of_ble_eq_true rfl) (Nat.le_of_ble_eq_true rfl) (cC (pc := 87) h dX13_readPolicy_87 rfl (jCNe (pc := 88) h dX13_readPolicy_88 rfl (cLa (pc := 97) h dX13_readPolicy_97 rfl (kCv (pc := 98) h (kd_X13_62 h dX13_readPolicy_98) spX13_scan (by decide) (by decide) (by decide) (by decide) (cLa (pc := 101) h dX13_readPolicy_101 rfl (cLi (pc := 102) h dX13_readPolicy_102 rfl (kCvX (pc := 103) h (kd_X13_114 h dX13_readPolicy_103) spX13_readCond (by decide) (by decide) (by decide) (by decide) (jGo (pc := 106) h dX13_readPolicy_106 rfl (k43)) (zX2 (pc := 103) eXi_J h hm hx (Nat.le_refl _))))))) (cLa (pc := 91) h dX13_readPolicy_91 rfl (cC (pc := 92) h dX13_readPolicy_92 rfl (kCr (pc := 93) h (kd_X13_58 h dX13_readPolicy_93) spX13_wrong (by decide) (by decide) (by decide) (by decide) (zT2 (pc := 96) eTi_J h hm hx (Nat.le_refl _) (by decide) (by decide) dX13_readPolicy_96)))))))))))))
set_option maxRecDepth 20000 in
theorem lX13_readPolicy_43 (k5 : qM → Option (Option Int32 × qM)) (n : Nat) (a1 : Int32) (m : qM) : tX13_readPolicy_43 (wX13_readPolicy_5 k5) (wX13_readPolicy_43 ((fX13_readPolicy_43 k5 n))) [some (.ref 98), some (.int a1)] [] m = fX13_readPolicy_43 k5 (n + 1) a1 m := rfl
theorem bX13_readPolicy_43 {C : qCx} {w : qWp} (h : qOk C w RX13 cX13_readPolicy 2 6 155 155) (hm : qMt C (some .int)) (hx : qNx C) {k5 : qM → Option (Option Int32 × qM)} (h5 : qSnd C w 2 155 (qQf C w 155 155 jIX) qfin 155 7 (wX13_readPolicy_5 k5)) : ∀ n : Nat, qSnd C w 2 155 (qQf C w 155 155 jIX) qfin 155 72 (wX13_readPolicy_43 (fX13_readPolicy_43 k5 n))
  | 0 => qSnd_of0 (fun lo st m x hr0 => by
    unfold wX13_readPolicy_43 at hr0
    split at hr0
    · cases hr0
    · cases hr0)
  | n + 1 => by
    have ih := bX13_readPolicy_43 h hm hx h5 n
    exact qSnd_of (fun lo st m x hr0 => by
    unfold wX13_readPolicy_43 at hr0
    split at hr0
    · exact ⟨_, (qsub_e (qsub_e qsub_nil)), (lX13_readPolicy_43 _ n _ _).trans hr0⟩
    · cases hr0) (sX13_readPolicy_43 h hm hx h5 ih)
noncomputable def tX13_readPolicy_5 (j43 : qT (Option Int32 × qM)) : qT (Option Int32 × qM) :=
  oLa 0 (oGi 98 16 (oEq (oLa 0 (oGf 98 2 101 (oC (.int (4 : Int32)) (oAi 101 5 (eIX))))) (oLa 0 (oC (.ref 10101) (oCi GX13_is 2 (oEq (oLa 0 (oC (.int (1 : Int32)) (oCr GX13_wrong 2 (eTi)))) (oLa 0 (oGf 98 2 101 (oC (.int (4 : Int32)) (oAi 101 5 (oC (.int (8 : Int32)) (oCEq (oLa 0 (oC (.int (4 : Int32)) (oCr GX13_wrong 2 (eTi)))) (oC (.int (32 : Int32)) (oLa 0 (oGf 98 2 101 (oC (.int (4 : Int32)) (oAi 101 5 (o2 (· + ·) (oSi 1 (oLa 0 (oGf 98 5 104 (oLi 1 (oC (.int (0 : Int32)) (oWi 104 40 (oLa 0 (oCv GX13_scan 1 (oLa 0 (oLi 1 (oCvX GX13_readCond 2 (j43) eXi)))))))))))))))))))))))))))))
set_option maxRecDepth 20000 in
theorem sX13_readPolicy_5 {C : qCx} {w : qWp} (h : qOk C w RX13 cX13_readPolicy 2 6 155 155) (hm : qMt C (some .int)) (hx : qNx C) {j43 : qT (Option Int32 × qM)} (k43 : qSnd C w 2 155 (qQf C w 155 155 jIX) qfin 155 72 j43) : qSnd C w 2 155 (qQf C w 155 155 jIX) qfin 155 7 (tX13_readPolicy_5 j43) :=
  cLa (pc := 7) h dX13_readPolicy_7 rfl (gGi (pc := 8) h dX13_readPolicy_8 ff_X13_31_98 (Nat.le_of_ble_eq_true rfl) (Nat.le_of_ble_eq_true rfl) (jEq (pc := 11) h dX13_readPolicy_11 rfl (cLa (pc := 137) h dX13_readPolicy_137 rfl (gGf (pc := 138) h dX13_readPolicy_138 ff_X13_106_98 (Nat.le_of_ble_eq_true rfl) (Nat.le_of_ble_eq_true rfl) rfl (cC (pc := 141) h dX13_readPolicy_141 rfl (rAi (pc := 142) h dX13_readPolicy_142 rfl (Nat.le_of_ble_eq_true rfl) (Nat.le_of_ble_eq_true rfl) (zIX (pc := 143) h hm (Nat.le_refl _) dX13_readPolicy_143))))) (cLa (pc := 14) h dX13_readPolicy_14 rfl (cStr (pc := 15) h dX13_readPolicy_15 fs_X13_109 (kCi (pc := 17) h (kd_X13_54 h dX13_readPolicy_17) spX13_is (by decide) (by decide) (by decide) (by decide) (jNe (pc := 20) h dX13_readPolicy_20 rfl (cLa (pc := 29) h dX13_readPolicy_29 rfl (gGf (pc := 30) h dX13_readPolicy_30 ff_X13_106_98 (Nat.le_of_ble_eq_true rfl) (Nat.le_of_ble_eq_true rfl) rfl (cC (pc := 33) h dX13_readPolicy_33 rfl (rAi (pc := 34) h dX13_readPolicy_34 rfl (Nat.le_of_ble_eq_true rfl) (Nat.le_of_ble_eq_true rfl) (cB (pc := 35) h dX13_readPolicy_35 rfl (jCNe (pc := 37) h dX13_readPolicy_37 rfl (cB (pc := 46) h dX13_readPolicy_46 rfl (cLa (pc := 48) h dX13_readPolicy_48 rfl (gGf (pc := 49) h dX13_readPolicy_49 ff_X13_106_98 (Nat.le_of_ble_eq_true rfl) (Nat.le_of_ble_eq_true rfl) rfl (cC (pc := 52) h dX13_readPolicy_52 rfl (rAi (pc := 53) h dX13_readPolicy_53 rfl (Nat.le_of_ble_eq_true rfl) (Nat.le_of_ble_eq_true rfl) (aAdd (pc := 54) h dX13_readPolicy_54 (cSi (pc := 55) h dX13_readPolicy_55 rfl (cLa (pc := 56) h dX13_readPolicy_56 rfl (gGf (pc := 57) h dX13_readPolicy_57 ff_X13_111_98 (Nat.le_of_ble_eq_true rfl) (Nat.le_of_ble_eq_true rfl) rfl (cLi (pc := 60) h dX13_readPolicy_60 rfl (cC (pc := 61) h dX13_readPolicy_61 rfl (rWi (pc := 62) h dX13_readPolicy_62 rfl (Nat.le_of_ble_eq_true rfl) (Nat.le_of_ble_eq_true rfl) (cLa (pc := 63) h dX13_readPolicy_63 rfl (kCv (pc := 64) h (kd_X13_62 h dX13_readPolicy_64) spX13_scan (by decide) (by decide) (by decide) (by decide) (cLa (pc := 67) h dX13_readPolicy_67 rfl (cLi (pc := 68) h dX13_readPolicy_68 rfl (kCvX (pc := 69) h (kd_X13_114 h dX13_readPolicy_69) spX13_readCond (by decide) (by decide) (by decide) (by decide) (k43) (zX2 (pc := 69) eXi_J h hm hx (Nat.le_refl _))))))))))))))))))) (cLa (pc := 40) h dX13_readPolicy_40 rfl (cC (pc := 41) h dX13_readPolicy_41 rfl (kCr (pc := 42) h (kd_X13_58 h dX13_readPolicy_42) spX13_wrong (by decide) (by decide) (by decide) (by decide) (zT2 (pc := 45) eTi_J h hm hx (Nat.le_refl _) (by decide) (by decide) dX13_readPolicy_45)))))))))) (cLa (pc := 23) h dX13_readPolicy_23 rfl (cC (pc := 24) h dX13_readPolicy_24 rfl (kCr (pc := 25) h (kd_X13_58 h dX13_readPolicy_25) spX13_wrong (by decide) (by decide) (by decide) (by decide) (zT2 (pc := 28) eTi_J h hm hx (Nat.le_refl _) (by decide) (by decide) dX13_readPolicy_28))))))))))
set_option maxRecDepth 20000 in
theorem lX13_readPolicy_5 (n : Nat) (m : qM) : tX13_readPolicy_5 (wX13_readPolicy_43 (fX13_readPolicy_43 (fX13_readPolicy_5 n) FU)) [some (.ref 98), none] [] m = fX13_readPolicy_5 (n + 1) m := rfl
theorem bX13_readPolicy_5 {C : qCx} {w : qWp} (h : qOk C w RX13 cX13_readPolicy 2 6 155 155) (hm : qMt C (some .int)) (hx : qNx C) : ∀ n : Nat, qSnd C w 2 155 (qQf C w 155 155 jIX) qfin 155 7 (wX13_readPolicy_5 (fX13_readPolicy_5 n))
  | 0 => qSnd_of0 (fun lo st m x hr0 => by
    unfold wX13_readPolicy_5 at hr0
    split at hr0
    · cases hr0
    · cases hr0)
  | n + 1 => by
    have ih := bX13_readPolicy_5 h hm hx n
    exact qSnd_of (fun lo st m x hr0 => by
    unfold wX13_readPolicy_5 at hr0
    split at hr0
    · exact ⟨_, (qsub_e (qsub_n qsub_nil)), (lX13_readPolicy_5 n _).trans hr0⟩
    · cases hr0) (sX13_readPolicy_5 h hm hx (bX13_readPolicy_43 h hm hx ih FU))
noncomputable def tX13_readPolicy_0 (j5 : qT (Option Int32 × qM)) : qT (Option Int32 × qM) :=
  oLa 0 (oGf 98 2 101 (oC (.int (4 : Int32)) (oC (.int (0 : Int32)) (oWi 101 5 (j5)))))
set_option maxRecDepth 20000 in
theorem sX13_readPolicy_0 {C : qCx} {w : qWp} (h : qOk C w RX13 cX13_readPolicy 2 6 155 155) (hm : qMt C (some .int)) (hx : qNx C) {j5 : qT (Option Int32 × qM)} (k5 : qSnd C w 2 155 (qQf C w 155 155 jIX) qfin 155 7 j5) : qSnd C w 2 155 (qQf C w 155 155 jIX) qfin 155 0 (tX13_readPolicy_0 j5) :=
  cLa (pc := 0) h dX13_readPolicy_0 rfl (gGf (pc := 1) h dX13_readPolicy_1 ff_X13_106_98 (Nat.le_of_ble_eq_true rfl) (Nat.le_of_ble_eq_true rfl) rfl (cC (pc := 4) h dX13_readPolicy_4 rfl (cC (pc := 5) h dX13_readPolicy_5 rfl (rWi (pc := 6) h dX13_readPolicy_6 rfl (Nat.le_of_ble_eq_true rfl) (Nat.le_of_ble_eq_true rfl) (k5)))))
set_option maxRecDepth 20000 in
theorem lX13_readPolicy_0 (m : qM) : tX13_readPolicy_0 (wX13_readPolicy_5 (fX13_readPolicy_5 FU)) [some (.ref 98), none] [] m = fX13_readPolicy_0 m := rfl
noncomputable def GX13_readPolicy : qG (Option Int32) := fun av m => match av with
  | [.ref 98] => fX13_readPolicy m
  | _ => none
theorem spX13_readPolicy : qSpIX yX13_readPolicy (.code yX13_readPolicy cX13_readPolicy 2 (some .int)) 6 qfin 155 155 1 GX13_readPolicy := by
  intro av m x m' hG
  unfold GX13_readPolicy at hG
  split at hG
  · rw [fX13_readPolicy_d] at hG
    exact ⟨qmeet (J := jIX) (r := (x, m')) (av := [.ref 98]) (by decide +kernel) (Nat.le_of_ble_eq_true rfl) (fun C w h hm hx hn => sX13_readPolicy_0 h hm hx (bX13_readPolicy_5 h hm hx FU)) ((lX13_readPolicy_0 _).trans hG) (Nat.le_of_ble_eq_true rfl), Or.inl ⟨98, _, 13, _, _, rfl, by decide, rfl, qCk_13, rfl⟩⟩
  · cases hG
theorem dX13_lay_0 : decode cX13_lay 0 = .ok (.bipush 24, 2) := by decide +kernel
theorem dX13_lay_2 : decode cX13_lay 2 = .ok (.istore_n 2, 1) := by decide +kernel
theorem dX13_lay_3 : decode cX13_lay 3 = .ok (.iload_n 2, 1) := by decide +kernel
theorem dX13_lay_4 : decode cX13_lay 4 = .ok (.ifCond .lt 32, 3) := by decide +kernel
theorem dX13_lay_7 : decode cX13_lay 7 = .ok (.aload_n 0, 1) := by decide +kernel
theorem dX13_lay_8 : decode cX13_lay 8 = .ok (.getfield 20, 3) := by decide +kernel
theorem dX13_lay_11 : decode cX13_lay 11 = .ok (.aload_n 0, 1) := by decide +kernel
theorem dX13_lay_12 : decode cX13_lay 12 = .ok (.getfield 70, 3) := by decide +kernel
theorem dX13_lay_15 : decode cX13_lay 15 = .ok (.iload_n 1, 1) := by decide +kernel
theorem dX13_lay_16 : decode cX13_lay 16 = .ok (.iload_n 2, 1) := by decide +kernel
theorem dX13_lay_17 : decode cX13_lay 17 = .ok (.ishr, 1) := by decide +kernel
theorem dX13_lay_18 : decode cX13_lay 18 = .ok (.i2b, 1) := by decide +kernel
theorem dX13_lay_19 : decode cX13_lay 19 = .ok (.bastore, 1) := by decide +kernel
theorem dX13_lay_20 : decode cX13_lay 20 = .ok (.aload_n 0, 1) := by decide +kernel
theorem dX13_lay_21 : decode cX13_lay 21 = .ok (.dup, 1) := by decide +kernel
theorem dX13_lay_22 : decode cX13_lay 22 = .ok (.getfield 70, 3) := by decide +kernel
theorem dX13_lay_25 : decode cX13_lay 25 = .ok (.iconst 1, 1) := by decide +kernel
theorem dX13_lay_26 : decode cX13_lay 26 = .ok (.iadd, 1) := by decide +kernel
theorem dX13_lay_27 : decode cX13_lay 27 = .ok (.putfield 70, 3) := by decide +kernel
theorem dX13_lay_30 : decode cX13_lay 30 = .ok (.iinc 2 (-8), 3) := by decide +kernel
theorem dX13_lay_33 : decode cX13_lay 33 = .ok (.goto (-30), 3) := by decide +kernel
theorem dX13_lay_36 : decode cX13_lay 36 = .ok (.return_, 1) := by decide +kernel
noncomputable def tX13_lay_2 (j2 : qT (Unit × qM)) : qT (Unit × qM) :=
  oLi 2 (oLt (eV) (oLa 0 (oGf 98 11 110 (oLa 0 (oGi 98 12 (oLi 1 (oLi 2 (o2 (fun x y => x >>> (y &&& 31)) (o1 (fun x => x.toInt8.toInt32) (oWb 110 400 (oLa 0 (oDup (oGi 98 12 (oC (.int (1 : Int32)) (o2 (· + ·) (oPi 98 12 (oInc 2 (-8 : Int32) (j2))))))))))))))))))
noncomputable def wX13_lay_2 (k : Int32 → Int32 → qM → Option (Unit × qM)) : qT (Unit × qM) := fun lo st m => match lo, st with
  | [some (.ref 98), some (.int a1), some (.int a2)], [] => k a1 a2 m
  | _, _ => none
set_option maxRecDepth 20000 in
theorem sX13_lay_2 {C : qCx} {w : qWp} (h : qOk C w RX13 cX13_lay 3 0 155 155) (hm : qMt C none) (hx : qNx C) {j2 : qT (Unit × qM)} (k2 : qSnd C w 3 155 (qQf C w 155 155 jV) qfin 155 3 j2) : qSnd C w 3 155 (qQf C w 155 155 jV) qfin 155 3 (tX13_lay_2 j2) :=
  cLi (pc := 3) h dX13_lay_3 rfl (jLt (pc := 4) h dX13_lay_4 rfl (zV (pc := 36) h hm (Nat.le_refl _) dX13_lay_36) (cLa (pc := 7) h dX13_lay_7 rfl (gGf (pc := 8) h dX13_lay_8 ff_X13_20_98 (Nat.le_of_ble_eq_true rfl) (Nat.le_of_ble_eq_true rfl) rfl (cLa (pc := 11) h dX13_lay_11 rfl (gGi (pc := 12) h dX13_lay_12 ff_X13_70_98 (Nat.le_of_ble_eq_true rfl) (Nat.le_of_ble_eq_true rfl) (cLi (pc := 15) h dX13_lay_15 rfl (cLi (pc := 16) h dX13_lay_16 rfl (aShr (pc := 17) h dX13_lay_17 (aI2b (pc := 18) h dX13_lay_18 (rWb (pc := 19) h dX13_lay_19 rfl (Nat.le_of_ble_eq_true rfl) (Nat.le_of_ble_eq_true rfl) (cLa (pc := 20) h dX13_lay_20 rfl (aDup (pc := 21) h dX13_lay_21 (gGi (pc := 22) h dX13_lay_22 ff_X13_70_98 (Nat.le_of_ble_eq_true rfl) (Nat.le_of_ble_eq_true rfl) (cC (pc := 25) h dX13_lay_25 rfl (aAdd (pc := 26) h dX13_lay_26 (gPi (pc := 27) h dX13_lay_27 ff_X13_70_98 (Or.inl rfl) (Nat.le_of_ble_eq_true rfl) (Nat.le_of_ble_eq_true rfl) (cInc (pc := 30) h dX13_lay_30 rfl (jGo (pc := 33) h dX13_lay_33 rfl (k2)))))))))))))))))))
set_option maxRecDepth 20000 in
theorem lX13_lay_2 (n : Nat) (a1 : Int32) (a2 : Int32) (m : qM) : tX13_lay_2 (wX13_lay_2 ((fX13_lay_2 n))) [some (.ref 98), some (.int a1), some (.int a2)] [] m = fX13_lay_2 (n + 1) a1 a2 m := rfl
theorem bX13_lay_2 {C : qCx} {w : qWp} (h : qOk C w RX13 cX13_lay 3 0 155 155) (hm : qMt C none) (hx : qNx C) : ∀ n : Nat, qSnd C w 3 155 (qQf C w 155 155 jV) qfin 155 3 (wX13_lay_2 (fX13_lay_2 n))
  | 0 => qSnd_of0 (fun lo st m x hr0 => by
    unfold wX13_lay_2 at hr0
    split at hr0
    · cases hr0
    · cases hr0)
  | n + 1 => by
    have ih := bX13_lay_2 h hm hx n
    exact qSnd_of (fun lo st m x hr0 => by
    unfold wX13_lay_2 at hr0
    split at hr0
    · exact ⟨_, (qsub_e (qsub_e (qsub_e qsub_nil))), (lX13_lay_2 n _ _ _).trans hr0⟩
    · cases hr0) (sX13_lay_2 h hm hx ih)
noncomputable def tX13_lay_0 (j2 : qT (Unit × qM)) : qT (Unit × qM) :=
  oC (.int (24 : Int32)) (oSi 2 (j2))
set_option maxRecDepth 20000 in
theorem sX13_lay_0 {C : qCx} {w : qWp} (h : qOk C w RX13 cX13_lay 3 0 155 155) (hm : qMt C none) (hx : qNx C) {j2 : qT (Unit × qM)} (k2 : qSnd C w 3 155 (qQf C w 155 155 jV) qfin 155 3 j2) : qSnd C w 3 155 (qQf C w 155 155 jV) qfin 155 0 (tX13_lay_0 j2) :=
  cB (pc := 0) h dX13_lay_0 rfl (cSi (pc := 2) h dX13_lay_2 rfl (k2))
set_option maxRecDepth 20000 in
theorem lX13_lay_0 (a1 : Int32) (m : qM) : tX13_lay_0 (wX13_lay_2 (fX13_lay_2 FU)) [some (.ref 98), some (.int a1), none] [] m = fX13_lay_0 a1 m := rfl
noncomputable def GX13_lay : qG Unit := fun av m => match av with
  | [.ref 98, .int a1] => fX13_lay a1 m
  | _ => none
theorem spX13_lay : qSpV yX13_lay (.code yX13_lay cX13_lay 3 none) 0 qfin 155 155 1 GX13_lay := by
  intro av m m' hG
  unfold GX13_lay at hG
  split at hG
  · rename_i a1
    rw [fX13_lay_d] at hG
    exact ⟨qmeet (J := jV) (r := ((), m')) (av := [.ref 98, .int a1]) (by decide +kernel) (Nat.le_of_ble_eq_true rfl) (fun C w h hm hx hn => sX13_lay_0 h hm hx (bX13_lay_2 h hm hx FU)) ((lX13_lay_0 _ _).trans hG) (Nat.le_of_ble_eq_true rfl), Or.inl ⟨98, _, 13, _, _, rfl, by decide, rfl, qCk_13, rfl⟩⟩
  · cases hG
theorem im_X13_lay : Jvm.Cond.instanceMethod yX13_lay ∈ qTw := qm7 (List.mem_of_getElem? (i := 213) (by decide +kernel)) (by decide +kernel)
theorem se_X13_lay : Jvm.Cond.selects yX13_lay.cls yX13_lay yX13_lay ∈ qTw := List.mem_filter.mpr ⟨List.mem_append_left _ (List.mem_of_getElem? (i := 36) (by decide +kernel)), rfl⟩
theorem co_X13_lay : Jvm.Cond.code yX13_lay cX13_lay 3 none ∈ qTw := qm7 (List.mem_of_getElem? (i := 214) (by decide +kernel)) (by decide +kernel)
theorem yk_X13_lay : qYk yX13_lay 1 := ⟨⟨by decide +kernel, by decide +kernel⟩, by decide +kernel⟩
theorem ml_X13_310 : Jvm.Cond.methodLink RX13 310 yX13_lay ∈ qTw := qm7 (List.mem_of_getElem? (i := 211) (by decide +kernel)) (by decide +kernel)
theorem kd_X13_310 {C : qCx} {w : qWp} {cc : ByteArray} {nL dp n0 n1 pc : Nat} (h : qOk C w RX13 cc nL dp n0 n1) (d : decode cc pc = .ok (.invokevirtual 310, 3)) : qCallOk C w nL dp n0 n1 pc 2 1 yX13_lay (.code yX13_lay cX13_lay 3 none) := kindV h d ml_X13_310 im_X13_lay se_X13_lay in_ParentEveModel co_X13_lay yk_X13_lay (by decide)
theorem dX13_feed_0 : decode cX13_feed 0 = .ok (.aload_n 0, 1) := by decide +kernel
theorem dX13_feed_1 : decode cX13_feed 1 = .ok (.getfield 70, 3) := by decide +kernel
theorem dX13_feed_4 : decode cX13_feed 4 = .ok (.bipush 20, 2) := by decide +kernel
theorem dX13_feed_6 : decode cX13_feed 6 = .ok (.iadd, 1) := by decide +kernel
theorem dX13_feed_7 : decode cX13_feed 7 = .ok (.sipush 400, 3) := by decide +kernel
theorem dX13_feed_10 : decode cX13_feed 10 = .ok (.if_icmp .le 6, 3) := by decide +kernel
theorem dX13_feed_13 : decode cX13_feed 13 = .ok (.bipush (-3), 2) := by decide +kernel
theorem dX13_feed_15 : decode cX13_feed 15 = .ok (.ireturn, 1) := by decide +kernel
theorem dX13_feed_16 : decode cX13_feed 16 = .ok (.aload_n 0, 1) := by decide +kernel
theorem dX13_feed_17 : decode cX13_feed 17 = .ok (.iload_n 1, 1) := by decide +kernel
theorem dX13_feed_18 : decode cX13_feed 18 = .ok (.invokevirtual 310, 3) := by decide +kernel
theorem dX13_feed_21 : decode cX13_feed 21 = .ok (.aload_n 0, 1) := by decide +kernel
theorem dX13_feed_22 : decode cX13_feed 22 = .ok (.iload_n 2, 1) := by decide +kernel
theorem dX13_feed_23 : decode cX13_feed 23 = .ok (.invokevirtual 310, 3) := by decide +kernel
theorem dX13_feed_26 : decode cX13_feed 26 = .ok (.aload_n 0, 1) := by decide +kernel
theorem dX13_feed_27 : decode cX13_feed 27 = .ok (.iload_n 3, 1) := by decide +kernel
theorem dX13_feed_28 : decode cX13_feed 28 = .ok (.invokevirtual 310, 3) := by decide +kernel
theorem dX13_feed_31 : decode cX13_feed 31 = .ok (.aload_n 0, 1) := by decide +kernel
theorem dX13_feed_32 : decode cX13_feed 32 = .ok (.iload 4, 2) := by decide +kernel
theorem dX13_feed_34 : decode cX13_feed 34 = .ok (.invokevirtual 310, 3) := by decide +kernel
theorem dX13_feed_37 : decode cX13_feed 37 = .ok (.aload_n 0, 1) := by decide +kernel
theorem dX13_feed_38 : decode cX13_feed 38 = .ok (.iload 5, 2) := by decide +kernel
theorem dX13_feed_40 : decode cX13_feed 40 = .ok (.invokevirtual 310, 3) := by decide +kernel
theorem dX13_feed_43 : decode cX13_feed 43 = .ok (.aload_n 0, 1) := by decide +kernel
theorem dX13_feed_44 : decode cX13_feed 44 = .ok (.getfield 70, 3) := by decide +kernel
theorem dX13_feed_47 : decode cX13_feed 47 = .ok (.ireturn, 1) := by decide +kernel
noncomputable def tX13_feed_0 : qT (Int32 × qM) :=
  oLa 0 (oGi 98 12 (oC (.int (20 : Int32)) (o2 (· + ·) (oC (.int (400 : Int32)) (oCLe (oLa 0 (oLi 1 (oCv GX13_lay 2 (oLa 0 (oLi 2 (oCv GX13_lay 2 (oLa 0 (oLi 3 (oCv GX13_lay 2 (oLa 0 (oLi 4 (oCv GX13_lay 2 (oLa 0 (oLi 5 (oCv GX13_lay 2 (oLa 0 (oGi 98 12 (eI)))))))))))))))))) (oC (.int (-3 : Int32)) (eI)))))))
set_option maxRecDepth 20000 in
theorem sX13_feed_0 {C : qCx} {w : qWp} (h : qOk C w RX13 cX13_feed 6 1 155 155) (hm : qMt C (some .int)) (hx : qNx C) : qSnd C w 6 155 (qQf C w 155 155 jI) qfin 155 0 (tX13_feed_0) :=
  cLa (pc := 0) h dX13_feed_0 rfl (gGi (pc := 1) h dX13_feed_1 ff_X13_70_98 (Nat.le_of_ble_eq_true rfl) (Nat.le_of_ble_eq_true rfl) (cB (pc := 4) h dX13_feed_4 rfl (aAdd (pc := 6) h dX13_feed_6 (cS (pc := 7) h dX13_feed_7 rfl (jCLe (pc := 10) h dX13_feed_10 rfl (cLa (pc := 16) h dX13_feed_16 rfl (cLi (pc := 17) h dX13_feed_17 rfl (kCv (pc := 18) h (kd_X13_310 h dX13_feed_18) spX13_lay (by decide) (by decide) (by decide) (by decide) (cLa (pc := 21) h dX13_feed_21 rfl (cLi (pc := 22) h dX13_feed_22 rfl (kCv (pc := 23) h (kd_X13_310 h dX13_feed_23) spX13_lay (by decide) (by decide) (by decide) (by decide) (cLa (pc := 26) h dX13_feed_26 rfl (cLi (pc := 27) h dX13_feed_27 rfl (kCv (pc := 28) h (kd_X13_310 h dX13_feed_28) spX13_lay (by decide) (by decide) (by decide) (by decide) (cLa (pc := 31) h dX13_feed_31 rfl (cLI (pc := 32) h dX13_feed_32 (kCv (pc := 34) h (kd_X13_310 h dX13_feed_34) spX13_lay (by decide) (by decide) (by decide) (by decide) (cLa (pc := 37) h dX13_feed_37 rfl (cLI (pc := 38) h dX13_feed_38 (kCv (pc := 40) h (kd_X13_310 h dX13_feed_40) spX13_lay (by decide) (by decide) (by decide) (by decide) (cLa (pc := 43) h dX13_feed_43 rfl (gGi (pc := 44) h dX13_feed_44 ff_X13_70_98 (Nat.le_of_ble_eq_true rfl) (Nat.le_of_ble_eq_true rfl) (zI (pc := 47) h hm (Nat.le_refl _) dX13_feed_47)))))))))))))))))) (cB (pc := 13) h dX13_feed_13 rfl (zI (pc := 15) h hm (Nat.le_refl _) dX13_feed_15)))))))
set_option maxRecDepth 20000 in
theorem lX13_feed_0 (a1 : Int32) (a2 : Int32) (a3 : Int32) (a4 : Int32) (a5 : Int32) (m : qM) : tX13_feed_0 [some (.ref 98), some (.int a1), some (.int a2), some (.int a3), some (.int a4), some (.int a5)] [] m = fX13_feed_0 a1 a2 a3 a4 a5 m := rfl
noncomputable def GX13_feed : qG Int32 := fun av m => match av with
  | [.ref 98, .int a1, .int a2, .int a3, .int a4, .int a5] => fX13_feed a1 a2 a3 a4 a5 m
  | _ => none
theorem spX13_feed : qSpI yX13_feed (.code yX13_feed cX13_feed 6 (some .int)) 1 qfin 155 155 1 GX13_feed := by
  intro av m x m' hG
  unfold GX13_feed at hG
  split at hG
  · rename_i a1 a2 a3 a4 a5
    rw [fX13_feed_d] at hG
    exact ⟨qmeet (J := jI) (r := (x, m')) (av := [.ref 98, .int a1, .int a2, .int a3, .int a4, .int a5]) (by decide +kernel) (Nat.le_of_ble_eq_true rfl) (fun C w h hm hx hn => sX13_feed_0 h hm hx) ((lX13_feed_0 _ _ _ _ _ _).trans hG) (Nat.le_of_ble_eq_true rfl), Or.inl ⟨98, _, 13, _, _, rfl, by decide, rfl, qCk_13, rfl⟩⟩
  · cases hG
theorem dX13_end_0 : decode cX13_end 0 = .ok (.iload_n 1, 1) := by decide +kernel
theorem dX13_end_1 : decode cX13_end 1 = .ok (.i2l, 1) := by decide +kernel
theorem dX13_end_2 : decode cX13_end 2 = .ok (.lconst 0, 1) := by decide +kernel
theorem dX13_end_3 : decode cX13_end 3 = .ok (.aload_n 0, 1) := by decide +kernel
theorem dX13_end_4 : decode cX13_end 4 = .ok (.getfield 70, 3) := by decide +kernel
theorem dX13_end_7 : decode cX13_end 7 = .ok (.i2l, 1) := by decide +kernel
theorem dX13_end_8 : decode cX13_end 8 = .ok (.invokestatic 66, 3) := by decide +kernel
theorem dX13_end_11 : decode cX13_end 11 = .ok (.ifCond .ne 5, 3) := by decide +kernel
theorem dX13_end_14 : decode cX13_end 14 = .ok (.iconst (-1), 1) := by decide +kernel
theorem dX13_end_15 : decode cX13_end 15 = .ok (.ireturn, 1) := by decide +kernel
theorem dX13_end_16 : decode cX13_end 16 = .ok (.aload_n 0, 1) := by decide +kernel
theorem dX13_end_17 : decode cX13_end 17 = .ok (.iload_n 1, 1) := by decide +kernel
theorem dX13_end_18 : decode cX13_end 18 = .ok (.putfield 70, 3) := by decide +kernel
theorem dX13_end_21 : decode cX13_end 21 = .ok (.iload_n 1, 1) := by decide +kernel
theorem dX13_end_22 : decode cX13_end 22 = .ok (.ireturn, 1) := by decide +kernel
noncomputable def tX13_end_0 : qT (Int32 × qM) :=
  oLi 1 (oI2l (oC (.long (0 : Int64)) (oLa 0 (oGi 98 12 (oI2l (oCi GX13_in 3 (oEq (oC (.int (-1 : Int32)) (eI)) (oLa 0 (oLi 1 (oPi 98 12 (oLi 1 (eI))))))))))))
set_option maxRecDepth 20000 in
theorem sX13_end_0 {C : qCx} {w : qWp} (h : qOk C w RX13 cX13_end 2 1 155 155) (hm : qMt C (some .int)) (hx : qNx C) : qSnd C w 2 155 (qQf C w 155 155 jI) qfin 155 0 (tX13_end_0) :=
  cLi (pc := 0) h dX13_end_0 rfl (aI2l (pc := 1) h dX13_end_1 (cJ (pc := 2) h dX13_end_2 rfl (cLa (pc := 3) h dX13_end_3 rfl (gGi (pc := 4) h dX13_end_4 ff_X13_70_98 (Nat.le_of_ble_eq_true rfl) (Nat.le_of_ble_eq_true rfl) (aI2l (pc := 7) h dX13_end_7 (kCi (pc := 8) h (kd_X13_66 h dX13_end_8) spX13_in (by decide) (by decide) (by decide) (by decide) (jNe (pc := 11) h dX13_end_11 rfl (cLa (pc := 16) h dX13_end_16 rfl (cLi (pc := 17) h dX13_end_17 rfl (gPi (pc := 18) h dX13_end_18 ff_X13_70_98 (Or.inl rfl) (Nat.le_of_ble_eq_true rfl) (Nat.le_of_ble_eq_true rfl) (cLi (pc := 21) h dX13_end_21 rfl (zI (pc := 22) h hm (Nat.le_refl _) dX13_end_22))))) (cC (pc := 14) h dX13_end_14 rfl (zI (pc := 15) h hm (Nat.le_refl _) dX13_end_15)))))))))
set_option maxRecDepth 20000 in
theorem lX13_end_0 (a1 : Int32) (m : qM) : tX13_end_0 [some (.ref 98), some (.int a1)] [] m = fX13_end_0 a1 m := rfl
noncomputable def GX13_end : qG Int32 := fun av m => match av with
  | [.ref 98, .int a1] => fX13_end a1 m
  | _ => none
theorem spX13_end : qSpI yX13_end (.code yX13_end cX13_end 2 (some .int)) 1 qfin 155 155 1 GX13_end := by
  intro av m x m' hG
  unfold GX13_end at hG
  split at hG
  · rename_i a1
    rw [fX13_end_d] at hG
    exact ⟨qmeet (J := jI) (r := (x, m')) (av := [.ref 98, .int a1]) (by decide +kernel) (Nat.le_of_ble_eq_true rfl) (fun C w h hm hx hn => sX13_end_0 h hm hx) ((lX13_end_0 _ _).trans hG) (Nat.le_of_ble_eq_true rfl), Or.inl ⟨98, _, 13, _, _, rfl, by decide, rfl, qCk_13, rfl⟩⟩
  · cases hG
theorem mf_X13_313 : Jvm.Cond.fieldLink RX13 313 (qTb 13 32).1 (qTb 13 32).2.1 (qTb 13 32).2.2.1 ∈ qTw := qm7 (List.mem_of_getElem? (i := 10) (by decide +kernel)) (by decide +kernel)
theorem ff_X13_313_98 : qFd RX13 313 98 13 32 0 := ⟨mf_X13_313, rfl, by decide, rfl⟩
theorem mf_X13_221 : Jvm.Cond.fieldLink RX13 221 (qTb 13 36).1 (qTb 13 36).2.1 (qTb 13 36).2.2.1 ∈ qTw := qm7 (List.mem_of_getElem? (i := 14) (by decide +kernel)) (by decide +kernel)
theorem ff_X13_221_98 : qFd RX13 221 98 13 36 3 := ⟨mf_X13_221, rfl, by decide, rfl⟩
theorem dX13_laidMany_0 : decode cX13_laidMany 0 = .ok (.iconst 0, 1) := by decide +kernel
theorem dX13_laidMany_1 : decode cX13_laidMany 1 = .ok (.istore_n 1, 1) := by decide +kernel
theorem dX13_laidMany_2 : decode cX13_laidMany 2 = .ok (.iconst 0, 1) := by decide +kernel
theorem dX13_laidMany_3 : decode cX13_laidMany 3 = .ok (.istore_n 2, 1) := by decide +kernel
theorem dX13_laidMany_4 : decode cX13_laidMany 4 = .ok (.iload_n 2, 1) := by decide +kernel
theorem dX13_laidMany_5 : decode cX13_laidMany 5 = .ok (.aload_n 0, 1) := by decide +kernel
theorem dX13_laidMany_6 : decode cX13_laidMany 6 = .ok (.getfield 313, 3) := by decide +kernel
theorem dX13_laidMany_9 : decode cX13_laidMany 9 = .ok (.if_icmp .ge 27, 3) := by decide +kernel
theorem dX13_laidMany_12 : decode cX13_laidMany 12 = .ok (.iload_n 1, 1) := by decide +kernel
theorem dX13_laidMany_13 : decode cX13_laidMany 13 = .ok (.aload_n 0, 1) := by decide +kernel
theorem dX13_laidMany_14 : decode cX13_laidMany 14 = .ok (.getfield 221, 3) := by decide +kernel
theorem dX13_laidMany_17 : decode cX13_laidMany 17 = .ok (.iload_n 2, 1) := by decide +kernel
theorem dX13_laidMany_18 : decode cX13_laidMany 18 = .ok (.iaload, 1) := by decide +kernel
theorem dX13_laidMany_19 : decode cX13_laidMany 19 = .ok (.iconst (-1), 1) := by decide +kernel
theorem dX13_laidMany_20 : decode cX13_laidMany 20 = .ok (.if_icmp .eq 7, 3) := by decide +kernel
theorem dX13_laidMany_23 : decode cX13_laidMany 23 = .ok (.iconst 1, 1) := by decide +kernel
theorem dX13_laidMany_24 : decode cX13_laidMany 24 = .ok (.goto 4, 3) := by decide +kernel
theorem dX13_laidMany_27 : decode cX13_laidMany 27 = .ok (.iconst 0, 1) := by decide +kernel
theorem dX13_laidMany_28 : decode cX13_laidMany 28 = .ok (.iadd, 1) := by decide +kernel
theorem dX13_laidMany_29 : decode cX13_laidMany 29 = .ok (.istore_n 1, 1) := by decide +kernel
theorem dX13_laidMany_30 : decode cX13_laidMany 30 = .ok (.iinc 2 1, 3) := by decide +kernel
theorem dX13_laidMany_33 : decode cX13_laidMany 33 = .ok (.goto (-29), 3) := by decide +kernel
theorem dX13_laidMany_36 : decode cX13_laidMany 36 = .ok (.iload_n 1, 1) := by decide +kernel
theorem dX13_laidMany_37 : decode cX13_laidMany 37 = .ok (.ireturn, 1) := by decide +kernel
noncomputable def tX13_laidMany_18 (j4 : qT (Int32 × qM)) : qT (Int32 × qM) :=
  o2 (· + ·) (oSi 1 (oInc 2 (1 : Int32) (j4)))
noncomputable def wX13_laidMany_18 (k : Int32 → Int32 → Int32 → qM → Option (Int32 × qM)) : qT (Int32 × qM) := fun lo st m => match lo, st with
  | [some (.ref 98), _, some (.int a2)], [.int s0, .int s1] => k a2 s0 s1 m
  | _, _ => none
noncomputable def wX13_laidMany_4 (k : Int32 → Int32 → qM → Option (Int32 × qM)) : qT (Int32 × qM) := fun lo st m => match lo, st with
  | [some (.ref 98), some (.int a1), some (.int a2)], [] => k a1 a2 m
  | _, _ => none
set_option maxRecDepth 20000 in
theorem sX13_laidMany_18 {C : qCx} {w : qWp} (h : qOk C w RX13 cX13_laidMany 3 0 155 155) (hm : qMt C (some .int)) (hx : qNx C) {j4 : qT (Int32 × qM)} (k4 : qSnd C w 3 155 (qQf C w 155 155 jI) qfin 155 4 j4) : qSnd C w 3 155 (qQf C w 155 155 jI) qfin 155 28 (tX13_laidMany_18 j4) :=
  aAdd (pc := 28) h dX13_laidMany_28 (cSi (pc := 29) h dX13_laidMany_29 rfl (cInc (pc := 30) h dX13_laidMany_30 rfl (jGo (pc := 33) h dX13_laidMany_33 rfl (k4))))
set_option maxRecDepth 20000 in
theorem lX13_laidMany_18 (k4 : Int32 → Int32 → qM → Option (Int32 × qM)) (a2 : Int32) (s0 : Int32) (s1 : Int32) (m : qM) : tX13_laidMany_18 (wX13_laidMany_4 k4) [some (.ref 98), none, some (.int a2)] [(.int s0), (.int s1)] m = fX13_laidMany_18 k4 a2 s0 s1 m := rfl
theorem bX13_laidMany_18 {C : qCx} {w : qWp} (h : qOk C w RX13 cX13_laidMany 3 0 155 155) (hm : qMt C (some .int)) (hx : qNx C) {k4 : Int32 → Int32 → qM → Option (Int32 × qM)} (h4 : qSnd C w 3 155 (qQf C w 155 155 jI) qfin 155 4 (wX13_laidMany_4 k4)) : qSnd C w 3 155 (qQf C w 155 155 jI) qfin 155 28 (wX13_laidMany_18 (fX13_laidMany_18 k4)) :=
  qSnd_of (fun lo st m x hr0 => by
    unfold wX13_laidMany_18 at hr0
    split at hr0
    · exact ⟨_, (qsub_e (qsub_n (qsub_e qsub_nil))), (lX13_laidMany_18 _ _ _ _ _).trans hr0⟩
    · cases hr0) (sX13_laidMany_18 h hm hx h4)
noncomputable def tX13_laidMany_4 (j18 : qT (Int32 × qM)) : qT (Int32 × qM) :=
  oLi 2 (oLa 0 (oGi 98 32 (oCGe (oLi 1 (eI)) (oLi 1 (oLa 0 (oGf 98 36 125 (oLi 2 (oAi 125 40 (oC (.int (-1 : Int32)) (oCEq (oC (.int (0 : Int32)) (j18)) (oC (.int (1 : Int32)) (j18))))))))))))
set_option maxRecDepth 20000 in
theorem sX13_laidMany_4 {C : qCx} {w : qWp} (h : qOk C w RX13 cX13_laidMany 3 0 155 155) (hm : qMt C (some .int)) (hx : qNx C) {j18 : qT (Int32 × qM)} (k18 : qSnd C w 3 155 (qQf C w 155 155 jI) qfin 155 28 j18) : qSnd C w 3 155 (qQf C w 155 155 jI) qfin 155 4 (tX13_laidMany_4 j18) :=
  cLi (pc := 4) h dX13_laidMany_4 rfl (cLa (pc := 5) h dX13_laidMany_5 rfl (gGi (pc := 6) h dX13_laidMany_6 ff_X13_313_98 (Nat.le_of_ble_eq_true rfl) (Nat.le_of_ble_eq_true rfl) (jCGe (pc := 9) h dX13_laidMany_9 rfl (cLi (pc := 36) h dX13_laidMany_36 rfl (zI (pc := 37) h hm (Nat.le_refl _) dX13_laidMany_37)) (cLi (pc := 12) h dX13_laidMany_12 rfl (cLa (pc := 13) h dX13_laidMany_13 rfl (gGf (pc := 14) h dX13_laidMany_14 ff_X13_221_98 (Nat.le_of_ble_eq_true rfl) (Nat.le_of_ble_eq_true rfl) rfl (cLi (pc := 17) h dX13_laidMany_17 rfl (rAi (pc := 18) h dX13_laidMany_18 rfl (Nat.le_of_ble_eq_true rfl) (Nat.le_of_ble_eq_true rfl) (cC (pc := 19) h dX13_laidMany_19 rfl (jCEq (pc := 20) h dX13_laidMany_20 rfl (cC (pc := 27) h dX13_laidMany_27 rfl (k18)) (cC (pc := 23) h dX13_laidMany_23 rfl (jGo (pc := 24) h dX13_laidMany_24 rfl (k18)))))))))))))
set_option maxRecDepth 20000 in
theorem lX13_laidMany_4 (n : Nat) (a1 : Int32) (a2 : Int32) (m : qM) : tX13_laidMany_4 (wX13_laidMany_18 (fX13_laidMany_18 (fX13_laidMany_4 n))) [some (.ref 98), some (.int a1), some (.int a2)] [] m = fX13_laidMany_4 (n + 1) a1 a2 m := rfl
theorem bX13_laidMany_4 {C : qCx} {w : qWp} (h : qOk C w RX13 cX13_laidMany 3 0 155 155) (hm : qMt C (some .int)) (hx : qNx C) : ∀ n : Nat, qSnd C w 3 155 (qQf C w 155 155 jI) qfin 155 4 (wX13_laidMany_4 (fX13_laidMany_4 n))
  | 0 => qSnd_of0 (fun lo st m x hr0 => by
    unfold wX13_laidMany_4 at hr0
    split at hr0
    · cases hr0
    · cases hr0)
  | n + 1 => by
    have ih := bX13_laidMany_4 h hm hx n
    exact qSnd_of (fun lo st m x hr0 => by
    unfold wX13_laidMany_4 at hr0
    split at hr0
    · exact ⟨_, (qsub_e (qsub_e (qsub_e qsub_nil))), (lX13_laidMany_4 n _ _ _).trans hr0⟩
    · cases hr0) (sX13_laidMany_4 h hm hx (bX13_laidMany_18 h hm hx ih))
noncomputable def tX13_laidMany_0 (j4 : qT (Int32 × qM)) : qT (Int32 × qM) :=
  oC (.int (0 : Int32)) (oSi 1 (oC (.int (0 : Int32)) (oSi 2 (j4))))
set_option maxRecDepth 20000 in
theorem sX13_laidMany_0 {C : qCx} {w : qWp} (h : qOk C w RX13 cX13_laidMany 3 0 155 155) (hm : qMt C (some .int)) (hx : qNx C) {j4 : qT (Int32 × qM)} (k4 : qSnd C w 3 155 (qQf C w 155 155 jI) qfin 155 4 j4) : qSnd C w 3 155 (qQf C w 155 155 jI) qfin 155 0 (tX13_laidMany_0 j4) :=
  cC (pc := 0) h dX13_laidMany_0 rfl (cSi (pc := 1) h dX13_laidMany_1 rfl (cC (pc := 2) h dX13_laidMany_2 rfl (cSi (pc := 3) h dX13_laidMany_3 rfl (k4))))
set_option maxRecDepth 20000 in
theorem lX13_laidMany_0 (m : qM) : tX13_laidMany_0 (wX13_laidMany_4 (fX13_laidMany_4 FU)) [some (.ref 98), none, none] [] m = fX13_laidMany_0 m := rfl
noncomputable def GX13_laidMany : qG Int32 := fun av m => match av with
  | [.ref 98] => fX13_laidMany m
  | _ => none
theorem spX13_laidMany : qSpI yX13_laidMany (.code yX13_laidMany cX13_laidMany 3 (some .int)) 0 qfin 155 155 1 GX13_laidMany := by
  intro av m x m' hG
  unfold GX13_laidMany at hG
  split at hG
  · rw [fX13_laidMany_d] at hG
    exact ⟨qmeet (J := jI) (r := (x, m')) (av := [.ref 98]) (by decide +kernel) (Nat.le_of_ble_eq_true rfl) (fun C w h hm hx hn => sX13_laidMany_0 h hm hx (bX13_laidMany_4 h hm hx FU)) ((lX13_laidMany_0 _).trans hG) (Nat.le_of_ble_eq_true rfl), Or.inl ⟨98, _, 13, _, _, rfl, by decide, rfl, qCk_13, rfl⟩⟩
  · cases hG
theorem mf_X13_316 : Jvm.Cond.fieldLink RX13 316 (qTb 13 33).1 (qTb 13 33).2.1 (qTb 13 33).2.2.1 ∈ qTw := qm7 (List.mem_of_getElem? (i := 11) (by decide +kernel)) (by decide +kernel)
theorem ff_X13_316_98 : qFd RX13 316 98 13 33 1 := ⟨mf_X13_316, rfl, by decide, rfl⟩
theorem im_X13_laidMany : Jvm.Cond.instanceMethod yX13_laidMany ∈ qTw := qm7 (List.mem_of_getElem? (i := 236) (by decide +kernel)) (by decide +kernel)
theorem se_X13_laidMany : Jvm.Cond.selects yX13_laidMany.cls yX13_laidMany yX13_laidMany ∈ qTw := List.mem_filter.mpr ⟨List.mem_append_left _ (List.mem_of_getElem? (i := 39) (by decide +kernel)), rfl⟩
theorem co_X13_laidMany : Jvm.Cond.code yX13_laidMany cX13_laidMany 3 (some .int) ∈ qTw := qm7 (List.mem_of_getElem? (i := 237) (by decide +kernel)) (by decide +kernel)
theorem yk_X13_laidMany : qYk yX13_laidMany 0 := ⟨⟨by decide +kernel, by decide +kernel⟩, by decide +kernel⟩
theorem ml_X13_320 : Jvm.Cond.methodLink RX13 320 yX13_laidMany ∈ qTw := qm7 (List.mem_of_getElem? (i := 234) (by decide +kernel)) (by decide +kernel)
theorem kd_X13_320 {C : qCx} {w : qWp} {cc : ByteArray} {nL dp n0 n1 pc : Nat} (h : qOk C w RX13 cc nL dp n0 n1) (d : decode cc pc = .ok (.invokevirtual 320, 3)) : qCallOk C w nL dp n0 n1 pc 1 1 yX13_laidMany (.code yX13_laidMany cX13_laidMany 3 (some .int)) := kindV h d ml_X13_320 im_X13_laidMany se_X13_laidMany in_ParentEveModel co_X13_laidMany yk_X13_laidMany (by decide)
theorem dX13_isFixed_0 : decode cX13_isFixed 0 = .ok (.aload_n 0, 1) := by decide +kernel
theorem dX13_isFixed_1 : decode cX13_isFixed 1 = .ok (.getfield 316, 3) := by decide +kernel
theorem dX13_isFixed_4 : decode cX13_isFixed 4 = .ok (.ifCond .ne 10, 3) := by decide +kernel
theorem dX13_isFixed_7 : decode cX13_isFixed 7 = .ok (.aload_n 0, 1) := by decide +kernel
theorem dX13_isFixed_8 : decode cX13_isFixed 8 = .ok (.invokevirtual 320, 3) := by decide +kernel
theorem dX13_isFixed_11 : decode cX13_isFixed 11 = .ok (.ifCond .le 7, 3) := by decide +kernel
theorem dX13_isFixed_14 : decode cX13_isFixed 14 = .ok (.iconst 1, 1) := by decide +kernel
theorem dX13_isFixed_15 : decode cX13_isFixed 15 = .ok (.goto 4, 3) := by decide +kernel
theorem dX13_isFixed_18 : decode cX13_isFixed 18 = .ok (.iconst 0, 1) := by decide +kernel
theorem dX13_isFixed_19 : decode cX13_isFixed 19 = .ok (.ireturn, 1) := by decide +kernel
noncomputable def tX13_isFixed_9 : qT (Int32 × qM) :=
  eZ
noncomputable def wX13_isFixed_9 (k : Int32 → qM → Option (Int32 × qM)) : qT (Int32 × qM) := fun lo st m => match lo, st with
  | [_], [.int s0] => k s0 m
  | _, _ => none
set_option maxRecDepth 20000 in
theorem sX13_isFixed_9 {C : qCx} {w : qWp} (h : qOk C w RX13 cX13_isFixed 1 1 155 155) (hm : qMt C (some .boolean)) (hx : qNx C) : qSnd C w 1 155 (qQf C w 155 155 jI) qfin 155 19 (tX13_isFixed_9) :=
  zZ (pc := 19) h hm (Nat.le_refl _) dX13_isFixed_19
set_option maxRecDepth 20000 in
theorem lX13_isFixed_9 (s0 : Int32) (m : qM) : tX13_isFixed_9 [none] [(.int s0)] m = fX13_isFixed_9 s0 m := rfl
theorem bX13_isFixed_9 {C : qCx} {w : qWp} (h : qOk C w RX13 cX13_isFixed 1 1 155 155) (hm : qMt C (some .boolean)) (hx : qNx C) : qSnd C w 1 155 (qQf C w 155 155 jI) qfin 155 19 (wX13_isFixed_9 fX13_isFixed_9) :=
  qSnd_of (fun lo st m x hr0 => by
    unfold wX13_isFixed_9 at hr0
    split at hr0
    · exact ⟨_, (qsub_n qsub_nil), (lX13_isFixed_9 _ _).trans hr0⟩
    · cases hr0) (sX13_isFixed_9 h hm hx)
noncomputable def tX13_isFixed_6 (j9 : qT (Int32 × qM)) : qT (Int32 × qM) :=
  oC (.int (1 : Int32)) (j9)
noncomputable def wX13_isFixed_6 (k : qM → Option (Int32 × qM)) : qT (Int32 × qM) := fun lo st m => match lo, st with
  | [_], [] => k m
  | _, _ => none
set_option maxRecDepth 20000 in
theorem sX13_isFixed_6 {C : qCx} {w : qWp} (h : qOk C w RX13 cX13_isFixed 1 1 155 155) (hm : qMt C (some .boolean)) (hx : qNx C) {j9 : qT (Int32 × qM)} (k9 : qSnd C w 1 155 (qQf C w 155 155 jI) qfin 155 19 j9) : qSnd C w 1 155 (qQf C w 155 155 jI) qfin 155 14 (tX13_isFixed_6 j9) :=
  cC (pc := 14) h dX13_isFixed_14 rfl (jGo (pc := 15) h dX13_isFixed_15 rfl (k9))
set_option maxRecDepth 20000 in
theorem lX13_isFixed_6 (m : qM) : tX13_isFixed_6 (wX13_isFixed_9 fX13_isFixed_9) [none] [] m = fX13_isFixed_6 m := rfl
theorem bX13_isFixed_6 {C : qCx} {w : qWp} (h : qOk C w RX13 cX13_isFixed 1 1 155 155) (hm : qMt C (some .boolean)) (hx : qNx C) : qSnd C w 1 155 (qQf C w 155 155 jI) qfin 155 14 (wX13_isFixed_6 fX13_isFixed_6) :=
  qSnd_of (fun lo st m x hr0 => by
    unfold wX13_isFixed_6 at hr0
    split at hr0
    · exact ⟨_, (qsub_n qsub_nil), (lX13_isFixed_6 _).trans hr0⟩
    · cases hr0) (sX13_isFixed_6 h hm hx (bX13_isFixed_9 h hm hx))
noncomputable def tX13_isFixed_0 (j6 : qT (Int32 × qM)) (j9 : qT (Int32 × qM)) : qT (Int32 × qM) :=
  oLa 0 (oGi 98 33 (oEq (oLa 0 (oCi GX13_laidMany 1 (oLe (oC (.int (0 : Int32)) (j9)) (j6)))) (j6)))
set_option maxRecDepth 20000 in
theorem sX13_isFixed_0 {C : qCx} {w : qWp} (h : qOk C w RX13 cX13_isFixed 1 1 155 155) (hm : qMt C (some .boolean)) (hx : qNx C) {j6 : qT (Int32 × qM)} {j9 : qT (Int32 × qM)} (k6 : qSnd C w 1 155 (qQf C w 155 155 jI) qfin 155 14 j6) (k9 : qSnd C w 1 155 (qQf C w 155 155 jI) qfin 155 19 j9) : qSnd C w 1 155 (qQf C w 155 155 jI) qfin 155 0 (tX13_isFixed_0 j6 j9) :=
  cLa (pc := 0) h dX13_isFixed_0 rfl (gGz (pc := 1) h dX13_isFixed_1 ff_X13_316_98 (Nat.le_of_ble_eq_true rfl) (Nat.le_of_ble_eq_true rfl) (jNe (pc := 4) h dX13_isFixed_4 rfl (k6) (cLa (pc := 7) h dX13_isFixed_7 rfl (kCi (pc := 8) h (kd_X13_320 h dX13_isFixed_8) spX13_laidMany (by decide) (by decide) (by decide) (by decide) (jLe (pc := 11) h dX13_isFixed_11 rfl (cC (pc := 18) h dX13_isFixed_18 rfl (k9)) (k6))))))
set_option maxRecDepth 20000 in
theorem lX13_isFixed_0 (m : qM) : tX13_isFixed_0 (wX13_isFixed_6 fX13_isFixed_6) (wX13_isFixed_9 fX13_isFixed_9) [some (.ref 98)] [] m = fX13_isFixed_0 m := rfl
noncomputable def GX13_isFixed : qG Int32 := fun av m => match av with
  | [.ref 98] => fX13_isFixed m
  | _ => none
theorem spX13_isFixed : qSpI yX13_isFixed (.code yX13_isFixed cX13_isFixed 1 (some .boolean)) 1 qfin 155 155 1 GX13_isFixed := by
  intro av m x m' hG
  unfold GX13_isFixed at hG
  split at hG
  · rw [fX13_isFixed_d] at hG
    exact ⟨qmeet (J := jI) (r := (x, m')) (av := [.ref 98]) (by decide +kernel) (Nat.le_of_ble_eq_true rfl) (fun C w h hm hx hn => sX13_isFixed_0 h hm hx (bX13_isFixed_6 h hm hx) (bX13_isFixed_9 h hm hx)) ((lX13_isFixed_0 _).trans hG) (Nat.le_of_ble_eq_true rfl), Or.inl ⟨98, _, 13, _, _, rfl, by decide, rfl, qCk_13, rfl⟩⟩
  · cases hG
theorem im_X13_open : Jvm.Cond.instanceMethod yX13_open ∈ qTw := qm7 (List.mem_of_getElem? (i := 228) (by decide +kernel)) (by decide +kernel)
theorem se_X13_open : Jvm.Cond.selects yX13_open.cls yX13_open yX13_open ∈ qTw := List.mem_filter.mpr ⟨List.mem_append_left _ (List.mem_of_getElem? (i := 37) (by decide +kernel)), rfl⟩
theorem co_X13_open : Jvm.Cond.code yX13_open cX13_open 1 none ∈ qTw := qm7 (List.mem_of_getElem? (i := 229) (by decide +kernel)) (by decide +kernel)
theorem yk_X13_open : qYk yX13_open 0 := ⟨⟨by decide +kernel, by decide +kernel⟩, by decide +kernel⟩
theorem ml_X13_323 : Jvm.Cond.methodLink RX13 323 yX13_open ∈ qTw := qm7 (List.mem_of_getElem? (i := 226) (by decide +kernel)) (by decide +kernel)
theorem kd_X13_323 {C : qCx} {w : qWp} {cc : ByteArray} {nL dp n0 n1 pc : Nat} (h : qOk C w RX13 cc nL dp n0 n1) (d : decode cc pc = .ok (.invokevirtual 323, 3)) : qCallOk C w nL dp n0 n1 pc 1 1 yX13_open (.code yX13_open cX13_open 1 none) := kindV h d ml_X13_323 im_X13_open se_X13_open in_ParentEveModel co_X13_open yk_X13_open (by decide)
theorem im_X13_isFixed : Jvm.Cond.instanceMethod yX13_isFixed ∈ qTw := qm7 (List.mem_of_getElem? (i := 232) (by decide +kernel)) (by decide +kernel)
theorem se_X13_isFixed : Jvm.Cond.selects yX13_isFixed.cls yX13_isFixed yX13_isFixed ∈ qTw := List.mem_filter.mpr ⟨List.mem_append_left _ (List.mem_of_getElem? (i := 38) (by decide +kernel)), rfl⟩
theorem co_X13_isFixed : Jvm.Cond.code yX13_isFixed cX13_isFixed 1 (some .boolean) ∈ qTw := qm7 (List.mem_of_getElem? (i := 233) (by decide +kernel)) (by decide +kernel)
theorem yk_X13_isFixed : qYk yX13_isFixed 0 := ⟨⟨by decide +kernel, by decide +kernel⟩, by decide +kernel⟩
theorem ml_X13_326 : Jvm.Cond.methodLink RX13 326 yX13_isFixed ∈ qTw := qm7 (List.mem_of_getElem? (i := 230) (by decide +kernel)) (by decide +kernel)
theorem kd_X13_326 {C : qCx} {w : qWp} {cc : ByteArray} {nL dp n0 n1 pc : Nat} (h : qOk C w RX13 cc nL dp n0 n1) (d : decode cc pc = .ok (.invokevirtual 326, 3)) : qCallOk C w nL dp n0 n1 pc 1 1 yX13_isFixed (.code yX13_isFixed cX13_isFixed 1 (some .boolean)) := kindV h d ml_X13_326 im_X13_isFixed se_X13_isFixed in_ParentEveModel co_X13_isFixed yk_X13_isFixed (by decide)
theorem im_X13_readRules : Jvm.Cond.instanceMethod yX13_readRules ∈ qTw := qm8 (List.mem_of_getElem? (i := 14) (by decide +kernel)) (by decide +kernel)
theorem se_X13_readRules : Jvm.Cond.selects yX13_readRules.cls yX13_readRules yX13_readRules ∈ qTw := List.mem_filter.mpr ⟨List.mem_append_left _ (List.mem_of_getElem? (i := 42) (by decide +kernel)), rfl⟩
theorem co_X13_readRules : Jvm.Cond.code yX13_readRules cX13_readRules 3 (some .int) ∈ qTw := qm8 (List.mem_of_getElem? (i := 15) (by decide +kernel)) (by decide +kernel)
theorem yk_X13_readRules : qYk yX13_readRules 0 := ⟨⟨by decide +kernel, by decide +kernel⟩, by decide +kernel⟩
theorem ml_X13_330 : Jvm.Cond.methodLink RX13 330 yX13_readRules ∈ qTw := qm8 (List.mem_of_getElem? (i := 12) (by decide +kernel)) (by decide +kernel)
theorem kd_X13_330 {C : qCx} {w : qWp} {cc : ByteArray} {nL dp n0 n1 pc : Nat} (h : qOk C w RX13 cc nL dp n0 n1) (d : decode cc pc = .ok (.invokevirtual 330, 3)) : qCallOk C w nL dp n0 n1 pc 1 1 yX13_readRules (.code yX13_readRules cX13_readRules 3 (some .int)) := kindV h d ml_X13_330 im_X13_readRules se_X13_readRules in_ParentEveModel co_X13_readRules yk_X13_readRules (by decide)
theorem mf_X13_174 : Jvm.Cond.fieldLink RX13 174 (qTb 13 0).1 (qTb 13 0).2.1 (qTb 13 0).2.2.1 ∈ qTw := qm6 (List.mem_of_getElem? (i := 218) (by decide +kernel)) (by decide +kernel)
theorem ff_X13_174_98 : qFd RX13 174 98 13 0 3 := ⟨mf_X13_174, rfl, by decide, rfl⟩
theorem dX13_rules_0 : decode cX13_rules 0 = .ok (.aload_n 0, 1) := by decide +kernel
theorem dX13_rules_1 : decode cX13_rules 1 = .ok (.invokevirtual 323, 3) := by decide +kernel
theorem dX13_rules_4 : decode cX13_rules 4 = .ok (.aload_n 0, 1) := by decide +kernel
theorem dX13_rules_5 : decode cX13_rules 5 = .ok (.invokevirtual 326, 3) := by decide +kernel
theorem dX13_rules_8 : decode cX13_rules 8 = .ok (.ifCond .eq 6, 3) := by decide +kernel
theorem dX13_rules_11 : decode cX13_rules 11 = .ok (.bipush (-4), 2) := by decide +kernel
theorem dX13_rules_13 : decode cX13_rules 13 = .ok (.ireturn, 1) := by decide +kernel
theorem dX13_rules_14 : decode cX13_rules 14 = .ok (.aload_n 0, 1) := by decide +kernel
theorem dX13_rules_15 : decode cX13_rules 15 = .ok (.iconst 0, 1) := by decide +kernel
theorem dX13_rules_16 : decode cX13_rules 16 = .ok (.putfield 3, 3) := by decide +kernel
theorem dX13_rules_19 : decode cX13_rules 19 = .ok (.aload_n 0, 1) := by decide +kernel
theorem dX13_rules_20 : decode cX13_rules 20 = .ok (.iconst (-1), 1) := by decide +kernel
theorem dX13_rules_21 : decode cX13_rules 21 = .ok (.putfield 10, 3) := by decide +kernel
theorem dX13_rules_24 : decode cX13_rules 24 = .ok (.aload_n 0, 1) := by decide +kernel
theorem dX13_rules_25 : decode cX13_rules 25 = .ok (.invokevirtual 62, 3) := by decide +kernel
theorem dX13_rules_28 : decode cX13_rules 28 = .ok (.aload_n 0, 1) := by decide +kernel
theorem dX13_rules_29 : decode cX13_rules 29 = .ok (.invokevirtual 330, 3) := by decide +kernel
theorem dX13_rules_32 : decode cX13_rules 32 = .ok (.istore_n 1, 1) := by decide +kernel
theorem dX13_rules_33 : decode cX13_rules 33 = .ok (.goto 6, 3) := by decide +kernel
theorem dX13_rules_36 : decode cX13_rules 36 = .ok (.astore_n 2, 1) := by decide +kernel
theorem dX13_rules_37 : decode cX13_rules 37 = .ok (.iconst (-1), 1) := by decide +kernel
theorem dX13_rules_38 : decode cX13_rules 38 = .ok (.ireturn, 1) := by decide +kernel
theorem dX13_rules_39 : decode cX13_rules 39 = .ok (.iconst 0, 1) := by decide +kernel
theorem dX13_rules_40 : decode cX13_rules 40 = .ok (.istore_n 2, 1) := by decide +kernel
theorem dX13_rules_41 : decode cX13_rules 41 = .ok (.iload_n 2, 1) := by decide +kernel
theorem dX13_rules_42 : decode cX13_rules 42 = .ok (.bipush 6, 2) := by decide +kernel
theorem dX13_rules_44 : decode cX13_rules 44 = .ok (.if_icmp .ge 21, 3) := by decide +kernel
theorem dX13_rules_47 : decode cX13_rules 47 = .ok (.aload_n 0, 1) := by decide +kernel
theorem dX13_rules_48 : decode cX13_rules 48 = .ok (.getfield 174, 3) := by decide +kernel
theorem dX13_rules_51 : decode cX13_rules 51 = .ok (.iload_n 2, 1) := by decide +kernel
theorem dX13_rules_52 : decode cX13_rules 52 = .ok (.aload_n 0, 1) := by decide +kernel
theorem dX13_rules_53 : decode cX13_rules 53 = .ok (.getfield 85, 3) := by decide +kernel
theorem dX13_rules_56 : decode cX13_rules 56 = .ok (.iload_n 2, 1) := by decide +kernel
theorem dX13_rules_57 : decode cX13_rules 57 = .ok (.iaload, 1) := by decide +kernel
theorem dX13_rules_58 : decode cX13_rules 58 = .ok (.iastore, 1) := by decide +kernel
theorem dX13_rules_59 : decode cX13_rules 59 = .ok (.iinc 2 1, 3) := by decide +kernel
theorem dX13_rules_62 : decode cX13_rules 62 = .ok (.goto (-21), 3) := by decide +kernel
theorem dX13_rules_65 : decode cX13_rules 65 = .ok (.iload_n 1, 1) := by decide +kernel
theorem dX13_rules_66 : decode cX13_rules 66 = .ok (.ireturn, 1) := by decide +kernel
theorem hl_stop : Jvm.Cond.classLink RX13 180 RX12 ∈ qTw := qm6 (List.mem_of_getElem? (i := 159) (by decide +kernel)) (by decide +kernel)
noncomputable def tX13_rules_24 (j24 : qT (Int32 × qM)) : qT (Int32 × qM) :=
  oLi 2 (oC (.int (6 : Int32)) (oCGe (oLi 1 (eI)) (oLa 0 (oGf 98 0 99 (oLi 2 (oLa 0 (oGf 98 1 100 (oLi 2 (oAi 100 6 (oWi 99 6 (oInc 2 (1 : Int32) (j24))))))))))))
noncomputable def wX13_rules_24 (k : Int32 → Int32 → qM → Option (Int32 × qM)) : qT (Int32 × qM) := fun lo st m => match lo, st with
  | [some (.ref 98), some (.int a1), some (.int a2)], [] => k a1 a2 m
  | _, _ => none
set_option maxRecDepth 20000 in
theorem sX13_rules_24 {C : qCx} {w : qWp} (h : qOk C w RX13 cX13_rules 3 7 155 155) (hm : qMt C (some .int)) (hx : qTh C [(24, 33, 36, 180)]) {j24 : qT (Int32 × qM)} (k24 : qSnd C w 3 155 (qQf C w 155 155 jI) qfin 155 41 j24) : qSnd C w 3 155 (qQf C w 155 155 jI) qfin 155 41 (tX13_rules_24 j24) :=
  cLi (pc := 41) h dX13_rules_41 rfl (cB (pc := 42) h dX13_rules_42 rfl (jCGe (pc := 44) h dX13_rules_44 rfl (cLi (pc := 65) h dX13_rules_65 rfl (zI (pc := 66) h hm (Nat.le_refl _) dX13_rules_66)) (cLa (pc := 47) h dX13_rules_47 rfl (gGf (pc := 48) h dX13_rules_48 ff_X13_174_98 (Nat.le_of_ble_eq_true rfl) (Nat.le_of_ble_eq_true rfl) rfl (cLi (pc := 51) h dX13_rules_51 rfl (cLa (pc := 52) h dX13_rules_52 rfl (gGf (pc := 53) h dX13_rules_53 ff_X13_85_98 (Nat.le_of_ble_eq_true rfl) (Nat.le_of_ble_eq_true rfl) rfl (cLi (pc := 56) h dX13_rules_56 rfl (rAi (pc := 57) h dX13_rules_57 rfl (Nat.le_of_ble_eq_true rfl) (Nat.le_of_ble_eq_true rfl) (rWi (pc := 58) h dX13_rules_58 rfl (Nat.le_of_ble_eq_true rfl) (Nat.le_of_ble_eq_true rfl) (cInc (pc := 59) h dX13_rules_59 rfl (jGo (pc := 62) h dX13_rules_62 rfl (k24)))))))))))))
set_option maxRecDepth 20000 in
theorem lX13_rules_24 (n : Nat) (a1 : Int32) (a2 : Int32) (m : qM) : tX13_rules_24 (wX13_rules_24 ((fX13_rules_24 n))) [some (.ref 98), some (.int a1), some (.int a2)] [] m = fX13_rules_24 (n + 1) a1 a2 m := rfl
theorem bX13_rules_24 {C : qCx} {w : qWp} (h : qOk C w RX13 cX13_rules 3 7 155 155) (hm : qMt C (some .int)) (hx : qTh C [(24, 33, 36, 180)]) : ∀ n : Nat, qSnd C w 3 155 (qQf C w 155 155 jI) qfin 155 41 (wX13_rules_24 (fX13_rules_24 n))
  | 0 => qSnd_of0 (fun lo st m x hr0 => by
    unfold wX13_rules_24 at hr0
    split at hr0
    · cases hr0
    · cases hr0)
  | n + 1 => by
    have ih := bX13_rules_24 h hm hx n
    exact qSnd_of (fun lo st m x hr0 => by
    unfold wX13_rules_24 at hr0
    split at hr0
    · exact ⟨_, (qsub_e (qsub_e (qsub_e qsub_nil))), (lX13_rules_24 n _ _ _).trans hr0⟩
    · cases hr0) (sX13_rules_24 h hm hx ih)
noncomputable def tX13_rules_0 (j24 : qT (Int32 × qM)) : qT (Int32 × qM) :=
  oLa 0 (oCv GX13_open 1 (oLa 0 (oCi GX13_isFixed 1 (oEq (oLa 0 (oC (.int (0 : Int32)) (oPi 98 18 (oLa 0 (oC (.int (-1 : Int32)) (oPi 98 19 (oLa 0 (oCv GX13_scan 1 (oLa 0 (oCiX GX13_readRules 1 (oSi 1 (oC (.int (0 : Int32)) (oSi 2 (j24)))) (oKill 2 (oC (.int (-1 : Int32)) (eI))))))))))))) (oC (.int (-4 : Int32)) (eI))))))
set_option maxRecDepth 20000 in
theorem sX13_rules_0 {C : qCx} {w : qWp} (h : qOk C w RX13 cX13_rules 3 7 155 155) (hm : qMt C (some .int)) (hx : qTh C [(24, 33, 36, 180)]) {j24 : qT (Int32 × qM)} (k24 : qSnd C w 3 155 (qQf C w 155 155 jI) qfin 155 41 j24) : qSnd C w 3 155 (qQf C w 155 155 jI) qfin 155 0 (tX13_rules_0 j24) :=
  cLa (pc := 0) h dX13_rules_0 rfl (kCv (pc := 1) h (kd_X13_323 h dX13_rules_1) spX13_open (by decide) (by decide) (by decide) (by decide) (cLa (pc := 4) h dX13_rules_4 rfl (kCi (pc := 5) h (kd_X13_326 h dX13_rules_5) spX13_isFixed (by decide) (by decide) (by decide) (by decide) (jEq (pc := 8) h dX13_rules_8 rfl (cLa (pc := 14) h dX13_rules_14 rfl (cC (pc := 15) h dX13_rules_15 rfl (gPi (pc := 16) h dX13_rules_16 ff_X13_3_98 (Or.inl rfl) (Nat.le_of_ble_eq_true rfl) (Nat.le_of_ble_eq_true rfl) (cLa (pc := 19) h dX13_rules_19 rfl (cC (pc := 20) h dX13_rules_20 rfl (gPi (pc := 21) h dX13_rules_21 ff_X13_10_98 (Or.inl rfl) (Nat.le_of_ble_eq_true rfl) (Nat.le_of_ble_eq_true rfl) (cLa (pc := 24) h dX13_rules_24 rfl (kCv (pc := 25) h (kd_X13_62 h dX13_rules_25) spX13_scan (by decide) (by decide) (by decide) (by decide) (cLa (pc := 28) h dX13_rules_28 rfl (kCiX (pc := 29) h (kd_X13_330 h dX13_rules_29) spX13_readRules (by decide) (by decide) (by decide) (by decide) (cSi (pc := 32) h dX13_rules_32 rfl (jGo (pc := 33) h dX13_rules_33 rfl (cC (pc := 39) h dX13_rules_39 rfl (cSi (pc := 40) h dX13_rules_40 rfl (k24))))) (hcatch2 (pc := 29) h hx (fun x e => by have e2 := (List.cons.inj e).1; subst e2; exact ⟨rfl, rfl, rfl⟩) ⟨_, rfl⟩ (by decide) hl_stop dX13_rules_36 rfl (cC (pc := 37) h dX13_rules_37 rfl (zI (pc := 38) h hm (Nat.le_refl _) dX13_rules_38))))))))))))) (cB (pc := 11) h dX13_rules_11 rfl (zI (pc := 13) h hm (Nat.le_refl _) dX13_rules_13))))))
set_option maxRecDepth 20000 in
theorem lX13_rules_0 (m : qM) : tX13_rules_0 (wX13_rules_24 (fX13_rules_24 FU)) [some (.ref 98), none, none] [] m = fX13_rules_0 m := rfl
noncomputable def GX13_rules : qG Int32 := fun av m => match av with
  | [.ref 98] => fX13_rules m
  | _ => none
theorem spX13_rules : qSpI yX13_rules (.codeWith yX13_rules cX13_rules 3 (some .int) [(24, 33, 36, 180)]) 7 qfin 155 155 1 GX13_rules := by
  intro av m x m' hG
  unfold GX13_rules at hG
  split at hG
  · rw [fX13_rules_d] at hG
    exact ⟨qmeetH (J := jI) (r := (x, m')) (av := [.ref 98]) (by decide +kernel) (Nat.le_of_ble_eq_true rfl) (fun C w h hm hx hn => sX13_rules_0 h hm hx (bX13_rules_24 h hm hx FU)) ((lX13_rules_0 _).trans hG) (Nat.le_of_ble_eq_true rfl), Or.inl ⟨98, _, 13, _, _, rfl, by decide, rfl, qCk_13, rfl⟩⟩
  · cases hG
theorem fc_X13_333 : Jvm.Cond.constantLong RX13 333 (5 : Int64) ∈ qTw := qm8 (List.mem_of_getElem? (i := 51) (by decide +kernel)) (by decide +kernel)
theorem dX13_rule_0 : decode cX13_rule 0 = .ok (.iload_n 1, 1) := by decide +kernel
theorem dX13_rule_1 : decode cX13_rule 1 = .ok (.i2l, 1) := by decide +kernel
theorem dX13_rule_2 : decode cX13_rule 2 = .ok (.lconst 0, 1) := by decide +kernel
theorem dX13_rule_3 : decode cX13_rule 3 = .ok (.ldc2_w 333, 3) := by decide +kernel
theorem dX13_rule_6 : decode cX13_rule 6 = .ok (.invokestatic 66, 3) := by decide +kernel
theorem dX13_rule_9 : decode cX13_rule 9 = .ok (.ifCond .eq 12, 3) := by decide +kernel
theorem dX13_rule_12 : decode cX13_rule 12 = .ok (.aload_n 0, 1) := by decide +kernel
theorem dX13_rule_13 : decode cX13_rule 13 = .ok (.getfield 174, 3) := by decide +kernel
theorem dX13_rule_16 : decode cX13_rule 16 = .ok (.iload_n 1, 1) := by decide +kernel
theorem dX13_rule_17 : decode cX13_rule 17 = .ok (.iaload, 1) := by decide +kernel
theorem dX13_rule_18 : decode cX13_rule 18 = .ok (.goto 5, 3) := by decide +kernel
theorem dX13_rule_21 : decode cX13_rule 21 = .ok (.bipush (-9), 2) := by decide +kernel
theorem dX13_rule_23 : decode cX13_rule 23 = .ok (.ireturn, 1) := by decide +kernel
noncomputable def tX13_rule_12 : qT (Int32 × qM) :=
  eI
noncomputable def wX13_rule_12 (k : Int32 → qM → Option (Int32 × qM)) : qT (Int32 × qM) := fun lo st m => match lo, st with
  | [_, _], [.int s0] => k s0 m
  | _, _ => none
set_option maxRecDepth 20000 in
theorem sX13_rule_12 {C : qCx} {w : qWp} (h : qOk C w RX13 cX13_rule 2 1 155 155) (hm : qMt C (some .int)) (hx : qNx C) : qSnd C w 2 155 (qQf C w 155 155 jI) qfin 155 23 (tX13_rule_12) :=
  zI (pc := 23) h hm (Nat.le_refl _) dX13_rule_23
set_option maxRecDepth 20000 in
theorem lX13_rule_12 (s0 : Int32) (m : qM) : tX13_rule_12 [none, none] [(.int s0)] m = fX13_rule_12 s0 m := rfl
theorem bX13_rule_12 {C : qCx} {w : qWp} (h : qOk C w RX13 cX13_rule 2 1 155 155) (hm : qMt C (some .int)) (hx : qNx C) : qSnd C w 2 155 (qQf C w 155 155 jI) qfin 155 23 (wX13_rule_12 fX13_rule_12) :=
  qSnd_of (fun lo st m x hr0 => by
    unfold wX13_rule_12 at hr0
    split at hr0
    · exact ⟨_, (qsub_n (qsub_n qsub_nil)), (lX13_rule_12 _ _).trans hr0⟩
    · cases hr0) (sX13_rule_12 h hm hx)
noncomputable def tX13_rule_0 (j12 : qT (Int32 × qM)) : qT (Int32 × qM) :=
  oLi 1 (oI2l (oC (.long (0 : Int64)) (oC (.long (5 : Int64)) (oCi GX13_in 3 (oEq (oC (.int (-9 : Int32)) (j12)) (oLa 0 (oGf 98 0 99 (oLi 1 (oAi 99 6 (j12))))))))))
set_option maxRecDepth 20000 in
theorem sX13_rule_0 {C : qCx} {w : qWp} (h : qOk C w RX13 cX13_rule 2 1 155 155) (hm : qMt C (some .int)) (hx : qNx C) {j12 : qT (Int32 × qM)} (k12 : qSnd C w 2 155 (qQf C w 155 155 jI) qfin 155 23 j12) : qSnd C w 2 155 (qQf C w 155 155 jI) qfin 155 0 (tX13_rule_0 j12) :=
  cLi (pc := 0) h dX13_rule_0 rfl (aI2l (pc := 1) h dX13_rule_1 (cJ (pc := 2) h dX13_rule_2 rfl (cKJ (pc := 3) h dX13_rule_3 fc_X13_333 (kCi (pc := 6) h (kd_X13_66 h dX13_rule_6) spX13_in (by decide) (by decide) (by decide) (by decide) (jEq (pc := 9) h dX13_rule_9 rfl (cB (pc := 21) h dX13_rule_21 rfl (k12)) (cLa (pc := 12) h dX13_rule_12 rfl (gGf (pc := 13) h dX13_rule_13 ff_X13_174_98 (Nat.le_of_ble_eq_true rfl) (Nat.le_of_ble_eq_true rfl) rfl (cLi (pc := 16) h dX13_rule_16 rfl (rAi (pc := 17) h dX13_rule_17 rfl (Nat.le_of_ble_eq_true rfl) (Nat.le_of_ble_eq_true rfl) (jGo (pc := 18) h dX13_rule_18 rfl (k12)))))))))))
set_option maxRecDepth 20000 in
theorem lX13_rule_0 (a1 : Int32) (m : qM) : tX13_rule_0 (wX13_rule_12 fX13_rule_12) [some (.ref 98), some (.int a1)] [] m = fX13_rule_0 a1 m := rfl
noncomputable def GX13_rule : qG Int32 := fun av m => match av with
  | [.ref 98, .int a1] => fX13_rule a1 m
  | _ => none
theorem spX13_rule : qSpI yX13_rule (.code yX13_rule cX13_rule 2 (some .int)) 1 qfin 155 155 1 GX13_rule := by
  intro av m x m' hG
  unfold GX13_rule at hG
  split at hG
  · rename_i a1
    rw [fX13_rule_d] at hG
    exact ⟨qmeet (J := jI) (r := (x, m')) (av := [.ref 98, .int a1]) (by decide +kernel) (Nat.le_of_ble_eq_true rfl) (fun C w h hm hx hn => sX13_rule_0 h hm hx (bX13_rule_12 h hm hx)) ((lX13_rule_0 _ _).trans hG) (Nat.le_of_ble_eq_true rfl), Or.inl ⟨98, _, 13, _, _, rfl, by decide, rfl, qCk_13, rfl⟩⟩
  · cases hG
theorem fc_X13_335 : Jvm.Cond.constantLong RX13 335 (3 : Int64) ∈ qTw := qm8 (List.mem_of_getElem? (i := 56) (by decide +kernel)) (by decide +kernel)
theorem im_X13_readPolicy : Jvm.Cond.instanceMethod yX13_readPolicy ∈ qTw := qm8 (List.mem_of_getElem? (i := 59) (by decide +kernel)) (by decide +kernel)
theorem se_X13_readPolicy : Jvm.Cond.selects yX13_readPolicy.cls yX13_readPolicy yX13_readPolicy ∈ qTw := List.mem_filter.mpr ⟨List.mem_append_left _ (List.mem_of_getElem? (i := 48) (by decide +kernel)), rfl⟩
theorem co_X13_readPolicy : Jvm.Cond.code yX13_readPolicy cX13_readPolicy 2 (some .int) ∈ qTw := qm8 (List.mem_of_getElem? (i := 60) (by decide +kernel)) (by decide +kernel)
theorem yk_X13_readPolicy : qYk yX13_readPolicy 0 := ⟨⟨by decide +kernel, by decide +kernel⟩, by decide +kernel⟩
theorem ml_X13_337 : Jvm.Cond.methodLink RX13 337 yX13_readPolicy ∈ qTw := qm8 (List.mem_of_getElem? (i := 57) (by decide +kernel)) (by decide +kernel)
theorem kd_X13_337 {C : qCx} {w : qWp} {cc : ByteArray} {nL dp n0 n1 pc : Nat} (h : qOk C w RX13 cc nL dp n0 n1) (d : decode cc pc = .ok (.invokevirtual 337, 3)) : qCallOk C w nL dp n0 n1 pc 1 1 yX13_readPolicy (.code yX13_readPolicy cX13_readPolicy 2 (some .int)) := kindV h d ml_X13_337 im_X13_readPolicy se_X13_readPolicy in_ParentEveModel co_X13_readPolicy yk_X13_readPolicy (by decide)
theorem dX13_policy_0 : decode cX13_policy 0 = .ok (.aload_n 0, 1) := by decide +kernel
theorem dX13_policy_1 : decode cX13_policy 1 = .ok (.invokevirtual 323, 3) := by decide +kernel
theorem dX13_policy_4 : decode cX13_policy 4 = .ok (.iload_n 1, 1) := by decide +kernel
theorem dX13_policy_5 : decode cX13_policy 5 = .ok (.i2l, 1) := by decide +kernel
theorem dX13_policy_6 : decode cX13_policy 6 = .ok (.lconst 0, 1) := by decide +kernel
theorem dX13_policy_7 : decode cX13_policy 7 = .ok (.ldc2_w 335, 3) := by decide +kernel
theorem dX13_policy_10 : decode cX13_policy 10 = .ok (.invokestatic 66, 3) := by decide +kernel
theorem dX13_policy_13 : decode cX13_policy 13 = .ok (.ifCond .ne 6, 3) := by decide +kernel
theorem dX13_policy_16 : decode cX13_policy 16 = .ok (.bipush (-2), 2) := by decide +kernel
theorem dX13_policy_18 : decode cX13_policy 18 = .ok (.ireturn, 1) := by decide +kernel
theorem dX13_policy_19 : decode cX13_policy 19 = .ok (.aload_n 0, 1) := by decide +kernel
theorem dX13_policy_20 : decode cX13_policy 20 = .ok (.getfield 316, 3) := by decide +kernel
theorem dX13_policy_23 : decode cX13_policy 23 = .ok (.ifCond .eq 6, 3) := by decide +kernel
theorem dX13_policy_26 : decode cX13_policy 26 = .ok (.bipush (-4), 2) := by decide +kernel
theorem dX13_policy_28 : decode cX13_policy 28 = .ok (.ireturn, 1) := by decide +kernel
theorem dX13_policy_29 : decode cX13_policy 29 = .ok (.aload_n 0, 1) := by decide +kernel
theorem dX13_policy_30 : decode cX13_policy 30 = .ok (.iconst 0, 1) := by decide +kernel
theorem dX13_policy_31 : decode cX13_policy 31 = .ok (.putfield 3, 3) := by decide +kernel
theorem dX13_policy_34 : decode cX13_policy 34 = .ok (.aload_n 0, 1) := by decide +kernel
theorem dX13_policy_35 : decode cX13_policy 35 = .ok (.iconst (-1), 1) := by decide +kernel
theorem dX13_policy_36 : decode cX13_policy 36 = .ok (.putfield 10, 3) := by decide +kernel
theorem dX13_policy_39 : decode cX13_policy 39 = .ok (.aload_n 0, 1) := by decide +kernel
theorem dX13_policy_40 : decode cX13_policy 40 = .ok (.invokevirtual 62, 3) := by decide +kernel
theorem dX13_policy_43 : decode cX13_policy 43 = .ok (.aload_n 0, 1) := by decide +kernel
theorem dX13_policy_44 : decode cX13_policy 44 = .ok (.invokevirtual 337, 3) := by decide +kernel
theorem dX13_policy_47 : decode cX13_policy 47 = .ok (.istore_n 2, 1) := by decide +kernel
theorem dX13_policy_48 : decode cX13_policy 48 = .ok (.goto 6, 3) := by decide +kernel
theorem dX13_policy_51 : decode cX13_policy 51 = .ok (.astore_n 3, 1) := by decide +kernel
theorem dX13_policy_52 : decode cX13_policy 52 = .ok (.iconst (-1), 1) := by decide +kernel
theorem dX13_policy_53 : decode cX13_policy 53 = .ok (.ireturn, 1) := by decide +kernel
theorem dX13_policy_54 : decode cX13_policy 54 = .ok (.aload_n 0, 1) := by decide +kernel
theorem dX13_policy_55 : decode cX13_policy 55 = .ok (.getfield 106, 3) := by decide +kernel
theorem dX13_policy_58 : decode cX13_policy 58 = .ok (.iload_n 1, 1) := by decide +kernel
theorem dX13_policy_59 : decode cX13_policy 59 = .ok (.iload_n 2, 1) := by decide +kernel
theorem dX13_policy_60 : decode cX13_policy 60 = .ok (.iastore, 1) := by decide +kernel
theorem dX13_policy_61 : decode cX13_policy 61 = .ok (.iconst 0, 1) := by decide +kernel
theorem dX13_policy_62 : decode cX13_policy 62 = .ok (.istore_n 3, 1) := by decide +kernel
theorem dX13_policy_63 : decode cX13_policy 63 = .ok (.iload_n 3, 1) := by decide +kernel
theorem dX13_policy_64 : decode cX13_policy 64 = .ok (.iload_n 2, 1) := by decide +kernel
theorem dX13_policy_65 : decode cX13_policy 65 = .ok (.if_icmp .ge 152, 3) := by decide +kernel
theorem dX13_policy_68 : decode cX13_policy 68 = .ok (.bipush 8, 2) := by decide +kernel
theorem dX13_policy_70 : decode cX13_policy 70 = .ok (.iload_n 1, 1) := by decide +kernel
theorem dX13_policy_71 : decode cX13_policy 71 = .ok (.imul, 1) := by decide +kernel
theorem dX13_policy_72 : decode cX13_policy 72 = .ok (.iload_n 3, 1) := by decide +kernel
theorem dX13_policy_73 : decode cX13_policy 73 = .ok (.iadd, 1) := by decide +kernel
theorem dX13_policy_74 : decode cX13_policy 74 = .ok (.istore 4, 2) := by decide +kernel
theorem dX13_policy_76 : decode cX13_policy 76 = .ok (.bipush 32, 2) := by decide +kernel
theorem dX13_policy_78 : decode cX13_policy 78 = .ok (.iload_n 3, 1) := by decide +kernel
theorem dX13_policy_79 : decode cX13_policy 79 = .ok (.iadd, 1) := by decide +kernel
theorem dX13_policy_80 : decode cX13_policy 80 = .ok (.istore 5, 2) := by decide +kernel
theorem dX13_policy_82 : decode cX13_policy 82 = .ok (.aload_n 0, 1) := by decide +kernel
theorem dX13_policy_83 : decode cX13_policy 83 = .ok (.getfield 163, 3) := by decide +kernel
theorem dX13_policy_86 : decode cX13_policy 86 = .ok (.iload 4, 2) := by decide +kernel
theorem dX13_policy_88 : decode cX13_policy 88 = .ok (.aload_n 0, 1) := by decide +kernel
theorem dX13_policy_89 : decode cX13_policy 89 = .ok (.getfield 163, 3) := by decide +kernel
theorem dX13_policy_92 : decode cX13_policy 92 = .ok (.iload 5, 2) := by decide +kernel
theorem dX13_policy_94 : decode cX13_policy 94 = .ok (.iaload, 1) := by decide +kernel
theorem dX13_policy_95 : decode cX13_policy 95 = .ok (.iastore, 1) := by decide +kernel
theorem dX13_policy_96 : decode cX13_policy 96 = .ok (.aload_n 0, 1) := by decide +kernel
theorem dX13_policy_97 : decode cX13_policy 97 = .ok (.getfield 166, 3) := by decide +kernel
theorem dX13_policy_100 : decode cX13_policy 100 = .ok (.iload 4, 2) := by decide +kernel
theorem dX13_policy_102 : decode cX13_policy 102 = .ok (.aload_n 0, 1) := by decide +kernel
theorem dX13_policy_103 : decode cX13_policy 103 = .ok (.getfield 166, 3) := by decide +kernel
theorem dX13_policy_106 : decode cX13_policy 106 = .ok (.iload 5, 2) := by decide +kernel
theorem dX13_policy_108 : decode cX13_policy 108 = .ok (.iaload, 1) := by decide +kernel
theorem dX13_policy_109 : decode cX13_policy 109 = .ok (.iastore, 1) := by decide +kernel
theorem dX13_policy_110 : decode cX13_policy 110 = .ok (.aload_n 0, 1) := by decide +kernel
theorem dX13_policy_111 : decode cX13_policy 111 = .ok (.getfield 111, 3) := by decide +kernel
theorem dX13_policy_114 : decode cX13_policy 114 = .ok (.iload 4, 2) := by decide +kernel
theorem dX13_policy_116 : decode cX13_policy 116 = .ok (.aload_n 0, 1) := by decide +kernel
theorem dX13_policy_117 : decode cX13_policy 117 = .ok (.getfield 111, 3) := by decide +kernel
theorem dX13_policy_120 : decode cX13_policy 120 = .ok (.iload 5, 2) := by decide +kernel
theorem dX13_policy_122 : decode cX13_policy 122 = .ok (.iaload, 1) := by decide +kernel
theorem dX13_policy_123 : decode cX13_policy 123 = .ok (.iastore, 1) := by decide +kernel
theorem dX13_policy_124 : decode cX13_policy 124 = .ok (.iconst 0, 1) := by decide +kernel
theorem dX13_policy_125 : decode cX13_policy 125 = .ok (.istore 6, 2) := by decide +kernel
theorem dX13_policy_127 : decode cX13_policy 127 = .ok (.iload 6, 2) := by decide +kernel
theorem dX13_policy_129 : decode cX13_policy 129 = .ok (.iconst 4, 1) := by decide +kernel
theorem dX13_policy_130 : decode cX13_policy 130 = .ok (.if_icmp .ge 81, 3) := by decide +kernel
theorem dX13_policy_133 : decode cX13_policy 133 = .ok (.aload_n 0, 1) := by decide +kernel
theorem dX13_policy_134 : decode cX13_policy 134 = .ok (.getfield 142, 3) := by decide +kernel
theorem dX13_policy_137 : decode cX13_policy 137 = .ok (.iconst 4, 1) := by decide +kernel
theorem dX13_policy_138 : decode cX13_policy 138 = .ok (.iload 4, 2) := by decide +kernel
theorem dX13_policy_140 : decode cX13_policy 140 = .ok (.imul, 1) := by decide +kernel
theorem dX13_policy_141 : decode cX13_policy 141 = .ok (.iload 6, 2) := by decide +kernel
theorem dX13_policy_143 : decode cX13_policy 143 = .ok (.iadd, 1) := by decide +kernel
theorem dX13_policy_144 : decode cX13_policy 144 = .ok (.aload_n 0, 1) := by decide +kernel
theorem dX13_policy_145 : decode cX13_policy 145 = .ok (.getfield 142, 3) := by decide +kernel
theorem dX13_policy_148 : decode cX13_policy 148 = .ok (.iconst 4, 1) := by decide +kernel
theorem dX13_policy_149 : decode cX13_policy 149 = .ok (.iload 5, 2) := by decide +kernel
theorem dX13_policy_151 : decode cX13_policy 151 = .ok (.imul, 1) := by decide +kernel
theorem dX13_policy_152 : decode cX13_policy 152 = .ok (.iload 6, 2) := by decide +kernel
theorem dX13_policy_154 : decode cX13_policy 154 = .ok (.iadd, 1) := by decide +kernel
theorem dX13_policy_155 : decode cX13_policy 155 = .ok (.iaload, 1) := by decide +kernel
theorem dX13_policy_156 : decode cX13_policy 156 = .ok (.iastore, 1) := by decide +kernel
theorem dX13_policy_157 : decode cX13_policy 157 = .ok (.aload_n 0, 1) := by decide +kernel
theorem dX13_policy_158 : decode cX13_policy 158 = .ok (.getfield 145, 3) := by decide +kernel
theorem dX13_policy_161 : decode cX13_policy 161 = .ok (.iconst 4, 1) := by decide +kernel
theorem dX13_policy_162 : decode cX13_policy 162 = .ok (.iload 4, 2) := by decide +kernel
theorem dX13_policy_164 : decode cX13_policy 164 = .ok (.imul, 1) := by decide +kernel
theorem dX13_policy_165 : decode cX13_policy 165 = .ok (.iload 6, 2) := by decide +kernel
theorem dX13_policy_167 : decode cX13_policy 167 = .ok (.iadd, 1) := by decide +kernel
theorem dX13_policy_168 : decode cX13_policy 168 = .ok (.aload_n 0, 1) := by decide +kernel
theorem dX13_policy_169 : decode cX13_policy 169 = .ok (.getfield 145, 3) := by decide +kernel
theorem dX13_policy_172 : decode cX13_policy 172 = .ok (.iconst 4, 1) := by decide +kernel
theorem dX13_policy_173 : decode cX13_policy 173 = .ok (.iload 5, 2) := by decide +kernel
theorem dX13_policy_175 : decode cX13_policy 175 = .ok (.imul, 1) := by decide +kernel
theorem dX13_policy_176 : decode cX13_policy 176 = .ok (.iload 6, 2) := by decide +kernel
theorem dX13_policy_178 : decode cX13_policy 178 = .ok (.iadd, 1) := by decide +kernel
theorem dX13_policy_179 : decode cX13_policy 179 = .ok (.iaload, 1) := by decide +kernel
theorem dX13_policy_180 : decode cX13_policy 180 = .ok (.iastore, 1) := by decide +kernel
theorem dX13_policy_181 : decode cX13_policy 181 = .ok (.aload_n 0, 1) := by decide +kernel
theorem dX13_policy_182 : decode cX13_policy 182 = .ok (.getfield 148, 3) := by decide +kernel
theorem dX13_policy_185 : decode cX13_policy 185 = .ok (.iconst 4, 1) := by decide +kernel
theorem dX13_policy_186 : decode cX13_policy 186 = .ok (.iload 4, 2) := by decide +kernel
theorem dX13_policy_188 : decode cX13_policy 188 = .ok (.imul, 1) := by decide +kernel
theorem dX13_policy_189 : decode cX13_policy 189 = .ok (.iload 6, 2) := by decide +kernel
theorem dX13_policy_191 : decode cX13_policy 191 = .ok (.iadd, 1) := by decide +kernel
theorem dX13_policy_192 : decode cX13_policy 192 = .ok (.aload_n 0, 1) := by decide +kernel
theorem dX13_policy_193 : decode cX13_policy 193 = .ok (.getfield 148, 3) := by decide +kernel
theorem dX13_policy_196 : decode cX13_policy 196 = .ok (.iconst 4, 1) := by decide +kernel
theorem dX13_policy_197 : decode cX13_policy 197 = .ok (.iload 5, 2) := by decide +kernel
theorem dX13_policy_199 : decode cX13_policy 199 = .ok (.imul, 1) := by decide +kernel
theorem dX13_policy_200 : decode cX13_policy 200 = .ok (.iload 6, 2) := by decide +kernel
theorem dX13_policy_202 : decode cX13_policy 202 = .ok (.iadd, 1) := by decide +kernel
theorem dX13_policy_203 : decode cX13_policy 203 = .ok (.iaload, 1) := by decide +kernel
theorem dX13_policy_204 : decode cX13_policy 204 = .ok (.iastore, 1) := by decide +kernel
theorem dX13_policy_205 : decode cX13_policy 205 = .ok (.iinc 6 1, 3) := by decide +kernel
theorem dX13_policy_208 : decode cX13_policy 208 = .ok (.goto (-81), 3) := by decide +kernel
theorem dX13_policy_211 : decode cX13_policy 211 = .ok (.iinc 3 1, 3) := by decide +kernel
theorem dX13_policy_214 : decode cX13_policy 214 = .ok (.goto (-151), 3) := by decide +kernel
theorem dX13_policy_217 : decode cX13_policy 217 = .ok (.iload_n 2, 1) := by decide +kernel
theorem dX13_policy_218 : decode cX13_policy 218 = .ok (.ireturn, 1) := by decide +kernel
noncomputable def tX13_policy_76 (j37 : qT (Int32 × qM)) (j76 : qT (Int32 × qM)) : qT (Int32 × qM) :=
  oLi 6 (oC (.int (4 : Int32)) (oCGe (oInc 3 (1 : Int32) (j37)) (oLa 0 (oGf 98 6 105 (oC (.int (4 : Int32)) (oLi 4 (o2 (· * ·) (oLi 6 (o2 (· + ·) (oLa 0 (oGf 98 6 105 (oC (.int (4 : Int32)) (oLi 5 (o2 (· * ·) (oLi 6 (o2 (· + ·) (oAi 105 160 (oWi 105 160 (oLa 0 (oGf 98 7 106 (oC (.int (4 : Int32)) (oLi 4 (o2 (· * ·) (oLi 6 (o2 (· + ·) (oLa 0 (oGf 98 7 106 (oC (.int (4 : Int32)) (oLi 5 (o2 (· * ·) (oLi 6 (o2 (· + ·) (oAi 106 160 (oWi 106 160 (oLa 0 (oGf 98 8 107 (oC (.int (4 : Int32)) (oLi 4 (o2 (· * ·) (oLi 6 (o2 (· + ·) (oLa 0 (oGf 98 8 107 (oC (.int (4 : Int32)) (oLi 5 (o2 (· * ·) (oLi 6 (o2 (· + ·) (oAi 107 160 (oWi 107 160 (oInc 6 (1 : Int32) (j76))))))))))))))))))))))))))))))))))))))))))))))))))))
noncomputable def wX13_policy_76 (k : Int32 → Int32 → Int32 → Int32 → Int32 → Int32 → qM → Option (Int32 × qM)) : qT (Int32 × qM) := fun lo st m => match lo, st with
  | [some (.ref 98), some (.int a1), some (.int a2), some (.int a3), some (.int a4), some (.int a5), some (.int a6)], [] => k a1 a2 a3 a4 a5 a6 m
  | _, _ => none
noncomputable def wX13_policy_37 (k : Int32 → Int32 → Int32 → qM → Option (Int32 × qM)) : qT (Int32 × qM) := fun lo st m => match lo, st with
  | [some (.ref 98), some (.int a1), some (.int a2), some (.int a3), _, _, _], [] => k a1 a2 a3 m
  | _, _ => none
set_option maxRecDepth 20000 in
theorem sX13_policy_76 {C : qCx} {w : qWp} (h : qOk C w RX13 cX13_policy 7 7 155 155) (hm : qMt C (some .int)) (hx : qTh C [(39, 48, 51, 180)]) {j37 : qT (Int32 × qM)} {j76 : qT (Int32 × qM)} (k37 : qSnd C w 7 155 (qQf C w 155 155 jI) qfin 155 63 j37) (k76 : qSnd C w 7 155 (qQf C w 155 155 jI) qfin 155 127 j76) : qSnd C w 7 155 (qQf C w 155 155 jI) qfin 155 127 (tX13_policy_76 j37 j76) :=
  cLI (pc := 127) h dX13_policy_127 (cC (pc := 129) h dX13_policy_129 rfl (jCGe (pc := 130) h dX13_policy_130 rfl (cInc (pc := 211) h dX13_policy_211 rfl (jGo (pc := 214) h dX13_policy_214 rfl (k37))) (cLa (pc := 133) h dX13_policy_133 rfl (gGf (pc := 134) h dX13_policy_134 ff_X13_142_98 (Nat.le_of_ble_eq_true rfl) (Nat.le_of_ble_eq_true rfl) rfl (cC (pc := 137) h dX13_policy_137 rfl (cLI (pc := 138) h dX13_policy_138 (aMul (pc := 140) h dX13_policy_140 (cLI (pc := 141) h dX13_policy_141 (aAdd (pc := 143) h dX13_policy_143 (cLa (pc := 144) h dX13_policy_144 rfl (gGf (pc := 145) h dX13_policy_145 ff_X13_142_98 (Nat.le_of_ble_eq_true rfl) (Nat.le_of_ble_eq_true rfl) rfl (cC (pc := 148) h dX13_policy_148 rfl (cLI (pc := 149) h dX13_policy_149 (aMul (pc := 151) h dX13_policy_151 (cLI (pc := 152) h dX13_policy_152 (aAdd (pc := 154) h dX13_policy_154 (rAi (pc := 155) h dX13_policy_155 rfl (Nat.le_of_ble_eq_true rfl) (Nat.le_of_ble_eq_true rfl) (rWi (pc := 156) h dX13_policy_156 rfl (Nat.le_of_ble_eq_true rfl) (Nat.le_of_ble_eq_true rfl) (cLa (pc := 157) h dX13_policy_157 rfl (gGf (pc := 158) h dX13_policy_158 ff_X13_145_98 (Nat.le_of_ble_eq_true rfl) (Nat.le_of_ble_eq_true rfl) rfl (cC (pc := 161) h dX13_policy_161 rfl (cLI (pc := 162) h dX13_policy_162 (aMul (pc := 164) h dX13_policy_164 (cLI (pc := 165) h dX13_policy_165 (aAdd (pc := 167) h dX13_policy_167 (cLa (pc := 168) h dX13_policy_168 rfl (gGf (pc := 169) h dX13_policy_169 ff_X13_145_98 (Nat.le_of_ble_eq_true rfl) (Nat.le_of_ble_eq_true rfl) rfl (cC (pc := 172) h dX13_policy_172 rfl (cLI (pc := 173) h dX13_policy_173 (aMul (pc := 175) h dX13_policy_175 (cLI (pc := 176) h dX13_policy_176 (aAdd (pc := 178) h dX13_policy_178 (rAi (pc := 179) h dX13_policy_179 rfl (Nat.le_of_ble_eq_true rfl) (Nat.le_of_ble_eq_true rfl) (rWi (pc := 180) h dX13_policy_180 rfl (Nat.le_of_ble_eq_true rfl) (Nat.le_of_ble_eq_true rfl) (cLa (pc := 181) h dX13_policy_181 rfl (gGf (pc := 182) h dX13_policy_182 ff_X13_148_98 (Nat.le_of_ble_eq_true rfl) (Nat.le_of_ble_eq_true rfl) rfl (cC (pc := 185) h dX13_policy_185 rfl (cLI (pc := 186) h dX13_policy_186 (aMul (pc := 188) h dX13_policy_188 (cLI (pc := 189) h dX13_policy_189 (aAdd (pc := 191) h dX13_policy_191 (cLa (pc := 192) h dX13_policy_192 rfl (gGf (pc := 193) h dX13_policy_193 ff_X13_148_98 (Nat.le_of_ble_eq_true rfl) (Nat.le_of_ble_eq_true rfl) rfl (cC (pc := 196) h dX13_policy_196 rfl (cLI (pc := 197) h dX13_policy_197 (aMul (pc := 199) h dX13_policy_199 (cLI (pc := 200) h dX13_policy_200 (aAdd (pc := 202) h dX13_policy_202 (rAi (pc := 203) h dX13_policy_203 rfl (Nat.le_of_ble_eq_true rfl) (Nat.le_of_ble_eq_true rfl) (rWi (pc := 204) h dX13_policy_204 rfl (Nat.le_of_ble_eq_true rfl) (Nat.le_of_ble_eq_true rfl) (cInc (pc := 205) h dX13_policy_205 rfl (jGo (pc := 208) h dX13_policy_208 rfl (k76)))))))))))))))))))))))))))))))))))))))))))))))))))))
set_option maxRecDepth 20000 in
theorem lX13_policy_76 (k37 : Int32 → Int32 → Int32 → qM → Option (Int32 × qM)) (n : Nat) (a1 : Int32) (a2 : Int32) (a3 : Int32) (a4 : Int32) (a5 : Int32) (a6 : Int32) (m : qM) : tX13_policy_76 (wX13_policy_37 k37) (wX13_policy_76 ((fX13_policy_76 k37 n))) [some (.ref 98), some (.int a1), some (.int a2), some (.int a3), some (.int a4), some (.int a5), some (.int a6)] [] m = fX13_policy_76 k37 (n + 1) a1 a2 a3 a4 a5 a6 m := rfl
theorem bX13_policy_76 {C : qCx} {w : qWp} (h : qOk C w RX13 cX13_policy 7 7 155 155) (hm : qMt C (some .int)) (hx : qTh C [(39, 48, 51, 180)]) {k37 : Int32 → Int32 → Int32 → qM → Option (Int32 × qM)} (h37 : qSnd C w 7 155 (qQf C w 155 155 jI) qfin 155 63 (wX13_policy_37 k37)) : ∀ n : Nat, qSnd C w 7 155 (qQf C w 155 155 jI) qfin 155 127 (wX13_policy_76 (fX13_policy_76 k37 n))
  | 0 => qSnd_of0 (fun lo st m x hr0 => by
    unfold wX13_policy_76 at hr0
    split at hr0
    · cases hr0
    · cases hr0)
  | n + 1 => by
    have ih := bX13_policy_76 h hm hx h37 n
    exact qSnd_of (fun lo st m x hr0 => by
    unfold wX13_policy_76 at hr0
    split at hr0
    · exact ⟨_, (qsub_e (qsub_e (qsub_e (qsub_e (qsub_e (qsub_e (qsub_e qsub_nil))))))), (lX13_policy_76 _ n _ _ _ _ _ _ _).trans hr0⟩
    · cases hr0) (sX13_policy_76 h hm hx h37 ih)
noncomputable def tX13_policy_37 (j76 : qT (Int32 × qM)) : qT (Int32 × qM) :=
  oLi 3 (oLi 2 (oCGe (oLi 2 (eI)) (oC (.int (8 : Int32)) (oLi 1 (o2 (· * ·) (oLi 3 (o2 (· + ·) (oSi 4 (oC (.int (32 : Int32)) (oLi 3 (o2 (· + ·) (oSi 5 (oLa 0 (oGf 98 3 102 (oLi 4 (oLa 0 (oGf 98 3 102 (oLi 5 (oAi 102 40 (oWi 102 40 (oLa 0 (oGf 98 4 103 (oLi 4 (oLa 0 (oGf 98 4 103 (oLi 5 (oAi 103 40 (oWi 103 40 (oLa 0 (oGf 98 5 104 (oLi 4 (oLa 0 (oGf 98 5 104 (oLi 5 (oAi 104 40 (oWi 104 40 (oC (.int (0 : Int32)) (oSi 6 (j76)))))))))))))))))))))))))))))))))))))))
set_option maxRecDepth 20000 in
theorem sX13_policy_37 {C : qCx} {w : qWp} (h : qOk C w RX13 cX13_policy 7 7 155 155) (hm : qMt C (some .int)) (hx : qTh C [(39, 48, 51, 180)]) {j76 : qT (Int32 × qM)} (k76 : qSnd C w 7 155 (qQf C w 155 155 jI) qfin 155 127 j76) : qSnd C w 7 155 (qQf C w 155 155 jI) qfin 155 63 (tX13_policy_37 j76) :=
  cLi (pc := 63) h dX13_policy_63 rfl (cLi (pc := 64) h dX13_policy_64 rfl (jCGe (pc := 65) h dX13_policy_65 rfl (cLi (pc := 217) h dX13_policy_217 rfl (zI (pc := 218) h hm (Nat.le_refl _) dX13_policy_218)) (cB (pc := 68) h dX13_policy_68 rfl (cLi (pc := 70) h dX13_policy_70 rfl (aMul (pc := 71) h dX13_policy_71 (cLi (pc := 72) h dX13_policy_72 rfl (aAdd (pc := 73) h dX13_policy_73 (cSI (pc := 74) h dX13_policy_74 (cB (pc := 76) h dX13_policy_76 rfl (cLi (pc := 78) h dX13_policy_78 rfl (aAdd (pc := 79) h dX13_policy_79 (cSI (pc := 80) h dX13_policy_80 (cLa (pc := 82) h dX13_policy_82 rfl (gGf (pc := 83) h dX13_policy_83 ff_X13_163_98 (Nat.le_of_ble_eq_true rfl) (Nat.le_of_ble_eq_true rfl) rfl (cLI (pc := 86) h dX13_policy_86 (cLa (pc := 88) h dX13_policy_88 rfl (gGf (pc := 89) h dX13_policy_89 ff_X13_163_98 (Nat.le_of_ble_eq_true rfl) (Nat.le_of_ble_eq_true rfl) rfl (cLI (pc := 92) h dX13_policy_92 (rAi (pc := 94) h dX13_policy_94 rfl (Nat.le_of_ble_eq_true rfl) (Nat.le_of_ble_eq_true rfl) (rWi (pc := 95) h dX13_policy_95 rfl (Nat.le_of_ble_eq_true rfl) (Nat.le_of_ble_eq_true rfl) (cLa (pc := 96) h dX13_policy_96 rfl (gGf (pc := 97) h dX13_policy_97 ff_X13_166_98 (Nat.le_of_ble_eq_true rfl) (Nat.le_of_ble_eq_true rfl) rfl (cLI (pc := 100) h dX13_policy_100 (cLa (pc := 102) h dX13_policy_102 rfl (gGf (pc := 103) h dX13_policy_103 ff_X13_166_98 (Nat.le_of_ble_eq_true rfl) (Nat.le_of_ble_eq_true rfl) rfl (cLI (pc := 106) h dX13_policy_106 (rAi (pc := 108) h dX13_policy_108 rfl (Nat.le_of_ble_eq_true rfl) (Nat.le_of_ble_eq_true rfl) (rWi (pc := 109) h dX13_policy_109 rfl (Nat.le_of_ble_eq_true rfl) (Nat.le_of_ble_eq_true rfl) (cLa (pc := 110) h dX13_policy_110 rfl (gGf (pc := 111) h dX13_policy_111 ff_X13_111_98 (Nat.le_of_ble_eq_true rfl) (Nat.le_of_ble_eq_true rfl) rfl (cLI (pc := 114) h dX13_policy_114 (cLa (pc := 116) h dX13_policy_116 rfl (gGf (pc := 117) h dX13_policy_117 ff_X13_111_98 (Nat.le_of_ble_eq_true rfl) (Nat.le_of_ble_eq_true rfl) rfl (cLI (pc := 120) h dX13_policy_120 (rAi (pc := 122) h dX13_policy_122 rfl (Nat.le_of_ble_eq_true rfl) (Nat.le_of_ble_eq_true rfl) (rWi (pc := 123) h dX13_policy_123 rfl (Nat.le_of_ble_eq_true rfl) (Nat.le_of_ble_eq_true rfl) (cC (pc := 124) h dX13_policy_124 rfl (cSI (pc := 125) h dX13_policy_125 (k76)))))))))))))))))))))))))))))))))))))))
set_option maxRecDepth 20000 in
theorem lX13_policy_37 (n : Nat) (a1 : Int32) (a2 : Int32) (a3 : Int32) (m : qM) : tX13_policy_37 (wX13_policy_76 (fX13_policy_76 (fX13_policy_37 n) FU)) [some (.ref 98), some (.int a1), some (.int a2), some (.int a3), none, none, none] [] m = fX13_policy_37 (n + 1) a1 a2 a3 m := rfl
theorem bX13_policy_37 {C : qCx} {w : qWp} (h : qOk C w RX13 cX13_policy 7 7 155 155) (hm : qMt C (some .int)) (hx : qTh C [(39, 48, 51, 180)]) : ∀ n : Nat, qSnd C w 7 155 (qQf C w 155 155 jI) qfin 155 63 (wX13_policy_37 (fX13_policy_37 n))
  | 0 => qSnd_of0 (fun lo st m x hr0 => by
    unfold wX13_policy_37 at hr0
    split at hr0
    · cases hr0
    · cases hr0)
  | n + 1 => by
    have ih := bX13_policy_37 h hm hx n
    exact qSnd_of (fun lo st m x hr0 => by
    unfold wX13_policy_37 at hr0
    split at hr0
    · exact ⟨_, (qsub_e (qsub_e (qsub_e (qsub_e (qsub_n (qsub_n (qsub_n qsub_nil))))))), (lX13_policy_37 n _ _ _ _).trans hr0⟩
    · cases hr0) (sX13_policy_37 h hm hx (bX13_policy_76 h hm hx ih FU))
noncomputable def tX13_policy_0 (j37 : qT (Int32 × qM)) : qT (Int32 × qM) :=
  oLa 0 (oCv GX13_open 1 (oLi 1 (oI2l (oC (.long (0 : Int64)) (oC (.long (3 : Int64)) (oCi GX13_in 3 (oEq (oC (.int (-2 : Int32)) (eI)) (oLa 0 (oGi 98 33 (oEq (oLa 0 (oC (.int (0 : Int32)) (oPi 98 18 (oLa 0 (oC (.int (-1 : Int32)) (oPi 98 19 (oLa 0 (oCv GX13_scan 1 (oLa 0 (oCiX GX13_readPolicy 1 (oSi 2 (oLa 0 (oGf 98 2 101 (oLi 1 (oLi 2 (oWi 101 5 (oC (.int (0 : Int32)) (oSi 3 (j37))))))))) (oKill 3 (oC (.int (-1 : Int32)) (eI))))))))))))) (oC (.int (-4 : Int32)) (eI))))))))))))
set_option maxRecDepth 20000 in
theorem sX13_policy_0 {C : qCx} {w : qWp} (h : qOk C w RX13 cX13_policy 7 7 155 155) (hm : qMt C (some .int)) (hx : qTh C [(39, 48, 51, 180)]) {j37 : qT (Int32 × qM)} (k37 : qSnd C w 7 155 (qQf C w 155 155 jI) qfin 155 63 j37) : qSnd C w 7 155 (qQf C w 155 155 jI) qfin 155 0 (tX13_policy_0 j37) :=
  cLa (pc := 0) h dX13_policy_0 rfl (kCv (pc := 1) h (kd_X13_323 h dX13_policy_1) spX13_open (by decide) (by decide) (by decide) (by decide) (cLi (pc := 4) h dX13_policy_4 rfl (aI2l (pc := 5) h dX13_policy_5 (cJ (pc := 6) h dX13_policy_6 rfl (cKJ (pc := 7) h dX13_policy_7 fc_X13_335 (kCi (pc := 10) h (kd_X13_66 h dX13_policy_10) spX13_in (by decide) (by decide) (by decide) (by decide) (jNe (pc := 13) h dX13_policy_13 rfl (cLa (pc := 19) h dX13_policy_19 rfl (gGz (pc := 20) h dX13_policy_20 ff_X13_316_98 (Nat.le_of_ble_eq_true rfl) (Nat.le_of_ble_eq_true rfl) (jEq (pc := 23) h dX13_policy_23 rfl (cLa (pc := 29) h dX13_policy_29 rfl (cC (pc := 30) h dX13_policy_30 rfl (gPi (pc := 31) h dX13_policy_31 ff_X13_3_98 (Or.inl rfl) (Nat.le_of_ble_eq_true rfl) (Nat.le_of_ble_eq_true rfl) (cLa (pc := 34) h dX13_policy_34 rfl (cC (pc := 35) h dX13_policy_35 rfl (gPi (pc := 36) h dX13_policy_36 ff_X13_10_98 (Or.inl rfl) (Nat.le_of_ble_eq_true rfl) (Nat.le_of_ble_eq_true rfl) (cLa (pc := 39) h dX13_policy_39 rfl (kCv (pc := 40) h (kd_X13_62 h dX13_policy_40) spX13_scan (by decide) (by decide) (by decide) (by decide) (cLa (pc := 43) h dX13_policy_43 rfl (kCiX (pc := 44) h (kd_X13_337 h dX13_policy_44) spX13_readPolicy (by decide) (by decide) (by decide) (by decide) (cSi (pc := 47) h dX13_policy_47 rfl (jGo (pc := 48) h dX13_policy_48 rfl (cLa (pc := 54) h dX13_policy_54 rfl (gGf (pc := 55) h dX13_policy_55 ff_X13_106_98 (Nat.le_of_ble_eq_true rfl) (Nat.le_of_ble_eq_true rfl) rfl (cLi (pc := 58) h dX13_policy_58 rfl (cLi (pc := 59) h dX13_policy_59 rfl (rWi (pc := 60) h dX13_policy_60 rfl (Nat.le_of_ble_eq_true rfl) (Nat.le_of_ble_eq_true rfl) (cC (pc := 61) h dX13_policy_61 rfl (cSi (pc := 62) h dX13_policy_62 rfl (k37)))))))))) (hcatch2 (pc := 44) h hx (fun x e => by have e2 := (List.cons.inj e).1; subst e2; exact ⟨rfl, rfl, rfl⟩) ⟨_, rfl⟩ (by decide) hl_stop dX13_policy_51 rfl (cC (pc := 52) h dX13_policy_52 rfl (zI (pc := 53) h hm (Nat.le_refl _) dX13_policy_53))))))))))))) (cB (pc := 26) h dX13_policy_26 rfl (zI (pc := 28) h hm (Nat.le_refl _) dX13_policy_28))))) (cB (pc := 16) h dX13_policy_16 rfl (zI (pc := 18) h hm (Nat.le_refl _) dX13_policy_18)))))))))
set_option maxRecDepth 20000 in
theorem lX13_policy_0 (a1 : Int32) (m : qM) : tX13_policy_0 (wX13_policy_37 (fX13_policy_37 FU)) [some (.ref 98), some (.int a1), none, none, none, none, none] [] m = fX13_policy_0 a1 m := rfl
noncomputable def GX13_policy : qG Int32 := fun av m => match av with
  | [.ref 98, .int a1] => fX13_policy a1 m
  | _ => none
theorem spX13_policy : qSpI yX13_policy (.codeWith yX13_policy cX13_policy 7 (some .int) [(39, 48, 51, 180)]) 7 qfin 155 155 1 GX13_policy := by
  intro av m x m' hG
  unfold GX13_policy at hG
  split at hG
  · rename_i a1
    rw [fX13_policy_d] at hG
    exact ⟨qmeetH (J := jI) (r := (x, m')) (av := [.ref 98, .int a1]) (by decide +kernel) (Nat.le_of_ble_eq_true rfl) (fun C w h hm hx hn => sX13_policy_0 h hm hx (bX13_policy_37 h hm hx FU)) ((lX13_policy_0 _ _).trans hG) (Nat.le_of_ble_eq_true rfl), Or.inl ⟨98, _, 13, _, _, rfl, by decide, rfl, qCk_13, rfl⟩⟩
  · cases hG
theorem fc_X13_345 : Jvm.Cond.constantLong RX13 345 (9 : Int64) ∈ qTw := qm8 (List.mem_of_getElem? (i := 96) (by decide +kernel)) (by decide +kernel)
theorem dX13_isTeacher_0 : decode cX13_isTeacher 0 = .ok (.iload_n 0, 1) := by decide +kernel
theorem dX13_isTeacher_1 : decode cX13_isTeacher 1 = .ok (.i2l, 1) := by decide +kernel
theorem dX13_isTeacher_2 : decode cX13_isTeacher 2 = .ok (.lconst 0, 1) := by decide +kernel
theorem dX13_isTeacher_3 : decode cX13_isTeacher 3 = .ok (.ldc2_w 345, 3) := by decide +kernel
theorem dX13_isTeacher_6 : decode cX13_isTeacher 6 = .ok (.invokestatic 66, 3) := by decide +kernel
theorem dX13_isTeacher_9 : decode cX13_isTeacher 9 = .ok (.ireturn, 1) := by decide +kernel
noncomputable def tX13_isTeacher_0 : qT (Int32 × qM) :=
  oLi 0 (oI2l (oC (.long (0 : Int64)) (oC (.long (9 : Int64)) (oCi GX13_in 3 (eZ)))))
set_option maxRecDepth 20000 in
theorem sX13_isTeacher_0 {C : qCx} {w : qWp} (h : qOk C w RX13 cX13_isTeacher 1 1 155 155) (hm : qMt C (some .boolean)) (hx : qNx C) : qSnd C w 1 155 (qQf C w 155 155 jI) qfin 155 0 (tX13_isTeacher_0) :=
  cLi (pc := 0) h dX13_isTeacher_0 rfl (aI2l (pc := 1) h dX13_isTeacher_1 (cJ (pc := 2) h dX13_isTeacher_2 rfl (cKJ (pc := 3) h dX13_isTeacher_3 fc_X13_345 (kCi (pc := 6) h (kd_X13_66 h dX13_isTeacher_6) spX13_in (by decide) (by decide) (by decide) (by decide) (zZ (pc := 9) h hm (Nat.le_refl _) dX13_isTeacher_9)))))
set_option maxRecDepth 20000 in
theorem lX13_isTeacher_0 (a0 : Int32) (m : qM) : tX13_isTeacher_0 [some (.int a0)] [] m = fX13_isTeacher_0 a0 m := rfl
noncomputable def GX13_isTeacher : qG Int32 := fun av m => match av with
  | [.int a0] => fX13_isTeacher a0 m
  | _ => none
theorem spX13_isTeacher : qSpI yX13_isTeacher (.code yX13_isTeacher cX13_isTeacher 1 (some .boolean)) 1 qfin 155 155 0 GX13_isTeacher := by
  intro av m x m' hG
  unfold GX13_isTeacher at hG
  split at hG
  · rename_i a0
    rw [fX13_isTeacher_d] at hG
    exact ⟨qmeet (J := jI) (r := (x, m')) (av := [.int a0]) (by decide +kernel) (Nat.le_of_ble_eq_true rfl) (fun C w h hm hx hn => sX13_isTeacher_0 h hm hx) ((lX13_isTeacher_0 _ _).trans hG) (Nat.le_of_ble_eq_true rfl), trivial⟩
  · cases hG
theorem im_X13_isTeacher : Jvm.Cond.static yX13_isTeacher ∈ qTw := qm8 (List.mem_of_getElem? (i := 94) (by decide +kernel)) (by decide +kernel)
theorem co_X13_isTeacher : Jvm.Cond.code yX13_isTeacher cX13_isTeacher 1 (some .boolean) ∈ qTw := qm8 (List.mem_of_getElem? (i := 95) (by decide +kernel)) (by decide +kernel)
theorem yk_X13_isTeacher : qYk yX13_isTeacher 1 := ⟨⟨by decide +kernel, by decide +kernel⟩, by decide +kernel⟩
theorem ml_X13_340 : Jvm.Cond.methodLink RX13 340 yX13_isTeacher ∈ qTw := qm8 (List.mem_of_getElem? (i := 93) (by decide +kernel)) (by decide +kernel)
theorem kd_X13_340 {C : qCx} {w : qWp} {cc : ByteArray} {nL dp n0 n1 pc : Nat} (h : qOk C w RX13 cc nL dp n0 n1) (d : decode cc pc = .ok (.invokestatic 340, 3)) : qCallOk C w nL dp n0 n1 pc 1 0 yX13_isTeacher (.code yX13_isTeacher cX13_isTeacher 1 (some .boolean)) := kindS h d ml_X13_340 im_X13_isTeacher in_ParentEveModel co_X13_isTeacher yk_X13_isTeacher (by decide)
theorem fc_X13_343 : Jvm.Cond.constantLong RX13 343 (-1 : Int64) ∈ qTw := qm8 (List.mem_of_getElem? (i := 97) (by decide +kernel)) (by decide +kernel)
theorem mf_X13_177 : Jvm.Cond.fieldLink RX13 177 (qTb 13 9).1 (qTb 13 9).2.1 (qTb 13 9).2.2.1 ∈ qTw := qm6 (List.mem_of_getElem? (i := 227) (by decide +kernel)) (by decide +kernel)
theorem ff_X13_177_98 : qFd RX13 177 98 13 9 3 := ⟨mf_X13_177, rfl, by decide, rfl⟩
theorem dX13_follow_0 : decode cX13_follow 0 = .ok (.iload_n 1, 1) := by decide +kernel
theorem dX13_follow_1 : decode cX13_follow 1 = .ok (.invokestatic 340, 3) := by decide +kernel
theorem dX13_follow_4 : decode cX13_follow 4 = .ok (.ifCond .eq 17, 3) := by decide +kernel
theorem dX13_follow_7 : decode cX13_follow 7 = .ok (.iload_n 2, 1) := by decide +kernel
theorem dX13_follow_8 : decode cX13_follow 8 = .ok (.i2l, 1) := by decide +kernel
theorem dX13_follow_9 : decode cX13_follow 9 = .ok (.ldc2_w 343, 3) := by decide +kernel
theorem dX13_follow_12 : decode cX13_follow 12 = .ok (.ldc2_w 335, 3) := by decide +kernel
theorem dX13_follow_15 : decode cX13_follow 15 = .ok (.invokestatic 66, 3) := by decide +kernel
theorem dX13_follow_18 : decode cX13_follow 18 = .ok (.ifCond .ne 6, 3) := by decide +kernel
theorem dX13_follow_21 : decode cX13_follow 21 = .ok (.bipush (-2), 2) := by decide +kernel
theorem dX13_follow_23 : decode cX13_follow 23 = .ok (.ireturn, 1) := by decide +kernel
theorem dX13_follow_24 : decode cX13_follow 24 = .ok (.aload_n 0, 1) := by decide +kernel
theorem dX13_follow_25 : decode cX13_follow 25 = .ok (.getfield 177, 3) := by decide +kernel
theorem dX13_follow_28 : decode cX13_follow 28 = .ok (.iload_n 1, 1) := by decide +kernel
theorem dX13_follow_29 : decode cX13_follow 29 = .ok (.iaload, 1) := by decide +kernel
theorem dX13_follow_30 : decode cX13_follow 30 = .ok (.istore_n 3, 1) := by decide +kernel
theorem dX13_follow_31 : decode cX13_follow 31 = .ok (.aload_n 0, 1) := by decide +kernel
theorem dX13_follow_32 : decode cX13_follow 32 = .ok (.getfield 177, 3) := by decide +kernel
theorem dX13_follow_35 : decode cX13_follow 35 = .ok (.iload_n 1, 1) := by decide +kernel
theorem dX13_follow_36 : decode cX13_follow 36 = .ok (.iload_n 2, 1) := by decide +kernel
theorem dX13_follow_37 : decode cX13_follow 37 = .ok (.iastore, 1) := by decide +kernel
theorem dX13_follow_38 : decode cX13_follow 38 = .ok (.iload_n 3, 1) := by decide +kernel
theorem dX13_follow_39 : decode cX13_follow 39 = .ok (.ireturn, 1) := by decide +kernel
noncomputable def tX13_follow_9 : qT (Int32 × qM) :=
  oC (.int (-2 : Int32)) (eI)
noncomputable def wX13_follow_9 (k : qM → Option (Int32 × qM)) : qT (Int32 × qM) := fun lo st m => match lo, st with
  | [_, _, _, _], [] => k m
  | _, _ => none
set_option maxRecDepth 20000 in
theorem sX13_follow_9 {C : qCx} {w : qWp} (h : qOk C w RX13 cX13_follow 4 2 155 155) (hm : qMt C (some .int)) (hx : qNx C) : qSnd C w 4 155 (qQf C w 155 155 jI) qfin 155 21 (tX13_follow_9) :=
  cB (pc := 21) h dX13_follow_21 rfl (zI (pc := 23) h hm (Nat.le_refl _) dX13_follow_23)
set_option maxRecDepth 20000 in
theorem lX13_follow_9 (m : qM) : tX13_follow_9 [none, none, none, none] [] m = fX13_follow_9 m := rfl
theorem bX13_follow_9 {C : qCx} {w : qWp} (h : qOk C w RX13 cX13_follow 4 2 155 155) (hm : qMt C (some .int)) (hx : qNx C) : qSnd C w 4 155 (qQf C w 155 155 jI) qfin 155 21 (wX13_follow_9 fX13_follow_9) :=
  qSnd_of (fun lo st m x hr0 => by
    unfold wX13_follow_9 at hr0
    split at hr0
    · exact ⟨_, (qsub_n (qsub_n (qsub_n (qsub_n qsub_nil)))), (lX13_follow_9 _).trans hr0⟩
    · cases hr0) (sX13_follow_9 h hm hx)
noncomputable def tX13_follow_0 (j9 : qT (Int32 × qM)) : qT (Int32 × qM) :=
  oLi 1 (oCi GX13_isTeacher 1 (oEq (j9) (oLi 2 (oI2l (oC (.long (-1 : Int64)) (oC (.long (3 : Int64)) (oCi GX13_in 3 (oEq (j9) (oLa 0 (oGf 98 9 108 (oLi 1 (oAi 108 10 (oSi 3 (oLa 0 (oGf 98 9 108 (oLi 1 (oLi 2 (oWi 108 10 (oLi 3 (eI))))))))))))))))))))
set_option maxRecDepth 20000 in
theorem sX13_follow_0 {C : qCx} {w : qWp} (h : qOk C w RX13 cX13_follow 4 2 155 155) (hm : qMt C (some .int)) (hx : qNx C) {j9 : qT (Int32 × qM)} (k9 : qSnd C w 4 155 (qQf C w 155 155 jI) qfin 155 21 j9) : qSnd C w 4 155 (qQf C w 155 155 jI) qfin 155 0 (tX13_follow_0 j9) :=
  cLi (pc := 0) h dX13_follow_0 rfl (kCi (pc := 1) h (kd_X13_340 h dX13_follow_1) spX13_isTeacher (by decide) (by decide) (by decide) (by decide) (jEq (pc := 4) h dX13_follow_4 rfl (k9) (cLi (pc := 7) h dX13_follow_7 rfl (aI2l (pc := 8) h dX13_follow_8 (cKJ (pc := 9) h dX13_follow_9 fc_X13_343 (cKJ (pc := 12) h dX13_follow_12 fc_X13_335 (kCi (pc := 15) h (kd_X13_66 h dX13_follow_15) spX13_in (by decide) (by decide) (by decide) (by decide) (jNe (pc := 18) h dX13_follow_18 rfl (cLa (pc := 24) h dX13_follow_24 rfl (gGf (pc := 25) h dX13_follow_25 ff_X13_177_98 (Nat.le_of_ble_eq_true rfl) (Nat.le_of_ble_eq_true rfl) rfl (cLi (pc := 28) h dX13_follow_28 rfl (rAi (pc := 29) h dX13_follow_29 rfl (Nat.le_of_ble_eq_true rfl) (Nat.le_of_ble_eq_true rfl) (cSi (pc := 30) h dX13_follow_30 rfl (cLa (pc := 31) h dX13_follow_31 rfl (gGf (pc := 32) h dX13_follow_32 ff_X13_177_98 (Nat.le_of_ble_eq_true rfl) (Nat.le_of_ble_eq_true rfl) rfl (cLi (pc := 35) h dX13_follow_35 rfl (cLi (pc := 36) h dX13_follow_36 rfl (rWi (pc := 37) h dX13_follow_37 rfl (Nat.le_of_ble_eq_true rfl) (Nat.le_of_ble_eq_true rfl) (cLi (pc := 38) h dX13_follow_38 rfl (zI (pc := 39) h hm (Nat.le_refl _) dX13_follow_39)))))))))))) (k9)))))))))
set_option maxRecDepth 20000 in
theorem lX13_follow_0 (a1 : Int32) (a2 : Int32) (m : qM) : tX13_follow_0 (wX13_follow_9 fX13_follow_9) [some (.ref 98), some (.int a1), some (.int a2), none] [] m = fX13_follow_0 a1 a2 m := rfl
noncomputable def GX13_follow : qG Int32 := fun av m => match av with
  | [.ref 98, .int a1, .int a2] => fX13_follow a1 a2 m
  | _ => none
theorem spX13_follow : qSpI yX13_follow (.code yX13_follow cX13_follow 4 (some .int)) 2 qfin 155 155 1 GX13_follow := by
  intro av m x m' hG
  unfold GX13_follow at hG
  split at hG
  · rename_i a1 a2
    rw [fX13_follow_d] at hG
    exact ⟨qmeet (J := jI) (r := (x, m')) (av := [.ref 98, .int a1, .int a2]) (by decide +kernel) (Nat.le_of_ble_eq_true rfl) (fun C w h hm hx hn => sX13_follow_0 h hm hx (bX13_follow_9 h hm hx)) ((lX13_follow_0 _ _ _).trans hG) (Nat.le_of_ble_eq_true rfl), Or.inl ⟨98, _, 13, _, _, rfl, by decide, rfl, qCk_13, rfl⟩⟩
  · cases hG
theorem dX13_fault_0 : decode cX13_fault 0 = .ok (.iload_n 1, 1) := by decide +kernel
theorem dX13_fault_1 : decode cX13_fault 1 = .ok (.ifCond .ne 10, 3) := by decide +kernel
theorem dX13_fault_4 : decode cX13_fault 4 = .ok (.aload_n 0, 1) := by decide +kernel
theorem dX13_fault_5 : decode cX13_fault 5 = .ok (.getfield 3, 3) := by decide +kernel
theorem dX13_fault_8 : decode cX13_fault 8 = .ok (.goto 16, 3) := by decide +kernel
theorem dX13_fault_11 : decode cX13_fault 11 = .ok (.iload_n 1, 1) := by decide +kernel
theorem dX13_fault_12 : decode cX13_fault 12 = .ok (.iconst 1, 1) := by decide +kernel
theorem dX13_fault_13 : decode cX13_fault 13 = .ok (.if_icmp .ne 10, 3) := by decide +kernel
theorem dX13_fault_16 : decode cX13_fault 16 = .ok (.aload_n 0, 1) := by decide +kernel
theorem dX13_fault_17 : decode cX13_fault 17 = .ok (.getfield 10, 3) := by decide +kernel
theorem dX13_fault_20 : decode cX13_fault 20 = .ok (.goto 4, 3) := by decide +kernel
theorem dX13_fault_23 : decode cX13_fault 23 = .ok (.iconst (-1), 1) := by decide +kernel
theorem dX13_fault_24 : decode cX13_fault 24 = .ok (.ireturn, 1) := by decide +kernel
noncomputable def tX13_fault_12 : qT (Int32 × qM) :=
  eI
noncomputable def wX13_fault_12 (k : Int32 → qM → Option (Int32 × qM)) : qT (Int32 × qM) := fun lo st m => match lo, st with
  | [_, _], [.int s0] => k s0 m
  | _, _ => none
set_option maxRecDepth 20000 in
theorem sX13_fault_12 {C : qCx} {w : qWp} (h : qOk C w RX13 cX13_fault 2 0 155 155) (hm : qMt C (some .int)) (hx : qNx C) : qSnd C w 2 155 (qQf C w 155 155 jI) qfin 155 24 (tX13_fault_12) :=
  zI (pc := 24) h hm (Nat.le_refl _) dX13_fault_24
set_option maxRecDepth 20000 in
theorem lX13_fault_12 (s0 : Int32) (m : qM) : tX13_fault_12 [none, none] [(.int s0)] m = fX13_fault_12 s0 m := rfl
theorem bX13_fault_12 {C : qCx} {w : qWp} (h : qOk C w RX13 cX13_fault 2 0 155 155) (hm : qMt C (some .int)) (hx : qNx C) : qSnd C w 2 155 (qQf C w 155 155 jI) qfin 155 24 (wX13_fault_12 fX13_fault_12) :=
  qSnd_of (fun lo st m x hr0 => by
    unfold wX13_fault_12 at hr0
    split at hr0
    · exact ⟨_, (qsub_n (qsub_n qsub_nil)), (lX13_fault_12 _ _).trans hr0⟩
    · cases hr0) (sX13_fault_12 h hm hx)
noncomputable def tX13_fault_0 (j12 : qT (Int32 × qM)) : qT (Int32 × qM) :=
  oLi 1 (oEq (oLa 0 (oGi 98 18 (j12))) (oLi 1 (oC (.int (1 : Int32)) (oCEq (oLa 0 (oGi 98 19 (j12))) (oC (.int (-1 : Int32)) (j12))))))
set_option maxRecDepth 20000 in
theorem sX13_fault_0 {C : qCx} {w : qWp} (h : qOk C w RX13 cX13_fault 2 0 155 155) (hm : qMt C (some .int)) (hx : qNx C) {j12 : qT (Int32 × qM)} (k12 : qSnd C w 2 155 (qQf C w 155 155 jI) qfin 155 24 j12) : qSnd C w 2 155 (qQf C w 155 155 jI) qfin 155 0 (tX13_fault_0 j12) :=
  cLi (pc := 0) h dX13_fault_0 rfl (jNe (pc := 1) h dX13_fault_1 rfl (cLi (pc := 11) h dX13_fault_11 rfl (cC (pc := 12) h dX13_fault_12 rfl (jCNe (pc := 13) h dX13_fault_13 rfl (cC (pc := 23) h dX13_fault_23 rfl (k12)) (cLa (pc := 16) h dX13_fault_16 rfl (gGi (pc := 17) h dX13_fault_17 ff_X13_10_98 (Nat.le_of_ble_eq_true rfl) (Nat.le_of_ble_eq_true rfl) (jGo (pc := 20) h dX13_fault_20 rfl (k12))))))) (cLa (pc := 4) h dX13_fault_4 rfl (gGi (pc := 5) h dX13_fault_5 ff_X13_3_98 (Nat.le_of_ble_eq_true rfl) (Nat.le_of_ble_eq_true rfl) (jGo (pc := 8) h dX13_fault_8 rfl (k12)))))
set_option maxRecDepth 20000 in
theorem lX13_fault_0 (a1 : Int32) (m : qM) : tX13_fault_0 (wX13_fault_12 fX13_fault_12) [some (.ref 98), some (.int a1)] [] m = fX13_fault_0 a1 m := rfl
noncomputable def GX13_fault : qG Int32 := fun av m => match av with
  | [.ref 98, .int a1] => fX13_fault a1 m
  | _ => none
theorem spX13_fault : qSpI yX13_fault (.code yX13_fault cX13_fault 2 (some .int)) 0 qfin 155 155 1 GX13_fault := by
  intro av m x m' hG
  unfold GX13_fault at hG
  split at hG
  · rename_i a1
    rw [fX13_fault_d] at hG
    exact ⟨qmeet (J := jI) (r := (x, m')) (av := [.ref 98, .int a1]) (by decide +kernel) (Nat.le_of_ble_eq_true rfl) (fun C w h hm hx hn => sX13_fault_0 h hm hx (bX13_fault_12 h hm hx)) ((lX13_fault_0 _ _).trans hG) (Nat.le_of_ble_eq_true rfl), Or.inl ⟨98, _, 13, _, _, rfl, by decide, rfl, qCk_13, rfl⟩⟩
  · cases hG
theorem fc_X13_347 : Jvm.Cond.constantLong RX13 347 (14 : Int64) ∈ qTw := qm8 (List.mem_of_getElem? (i := 124) (by decide +kernel)) (by decide +kernel)
theorem dX13_isFamily_0 : decode cX13_isFamily 0 = .ok (.iload_n 0, 1) := by decide +kernel
theorem dX13_isFamily_1 : decode cX13_isFamily 1 = .ok (.i2l, 1) := by decide +kernel
theorem dX13_isFamily_2 : decode cX13_isFamily 2 = .ok (.lconst 0, 1) := by decide +kernel
theorem dX13_isFamily_3 : decode cX13_isFamily 3 = .ok (.ldc2_w 347, 3) := by decide +kernel
theorem dX13_isFamily_6 : decode cX13_isFamily 6 = .ok (.invokestatic 66, 3) := by decide +kernel
theorem dX13_isFamily_9 : decode cX13_isFamily 9 = .ok (.ireturn, 1) := by decide +kernel
noncomputable def tX13_isFamily_0 : qT (Int32 × qM) :=
  oLi 0 (oI2l (oC (.long (0 : Int64)) (oC (.long (14 : Int64)) (oCi GX13_in 3 (eZ)))))
set_option maxRecDepth 20000 in
theorem sX13_isFamily_0 {C : qCx} {w : qWp} (h : qOk C w RX13 cX13_isFamily 1 1 155 155) (hm : qMt C (some .boolean)) (hx : qNx C) : qSnd C w 1 155 (qQf C w 155 155 jI) qfin 155 0 (tX13_isFamily_0) :=
  cLi (pc := 0) h dX13_isFamily_0 rfl (aI2l (pc := 1) h dX13_isFamily_1 (cJ (pc := 2) h dX13_isFamily_2 rfl (cKJ (pc := 3) h dX13_isFamily_3 fc_X13_347 (kCi (pc := 6) h (kd_X13_66 h dX13_isFamily_6) spX13_in (by decide) (by decide) (by decide) (by decide) (zZ (pc := 9) h hm (Nat.le_refl _) dX13_isFamily_9)))))
set_option maxRecDepth 20000 in
theorem lX13_isFamily_0 (a0 : Int32) (m : qM) : tX13_isFamily_0 [some (.int a0)] [] m = fX13_isFamily_0 a0 m := rfl
noncomputable def GX13_isFamily : qG Int32 := fun av m => match av with
  | [.int a0] => fX13_isFamily a0 m
  | _ => none
theorem spX13_isFamily : qSpI yX13_isFamily (.code yX13_isFamily cX13_isFamily 1 (some .boolean)) 1 qfin 155 155 0 GX13_isFamily := by
  intro av m x m' hG
  unfold GX13_isFamily at hG
  split at hG
  · rename_i a0
    rw [fX13_isFamily_d] at hG
    exact ⟨qmeet (J := jI) (r := (x, m')) (av := [.int a0]) (by decide +kernel) (Nat.le_of_ble_eq_true rfl) (fun C w h hm hx hn => sX13_isFamily_0 h hm hx) ((lX13_isFamily_0 _ _).trans hG) (Nat.le_of_ble_eq_true rfl), trivial⟩
  · cases hG
theorem fc_X13_349 : Jvm.Cond.constantLong RX13 349 (19 : Int64) ∈ qTw := qm8 (List.mem_of_getElem? (i := 116) (by decide +kernel)) (by decide +kernel)
theorem dX13_isSlot_0 : decode cX13_isSlot 0 = .ok (.iload_n 0, 1) := by decide +kernel
theorem dX13_isSlot_1 : decode cX13_isSlot 1 = .ok (.i2l, 1) := by decide +kernel
theorem dX13_isSlot_2 : decode cX13_isSlot 2 = .ok (.lconst 0, 1) := by decide +kernel
theorem dX13_isSlot_3 : decode cX13_isSlot 3 = .ok (.ldc2_w 349, 3) := by decide +kernel
theorem dX13_isSlot_6 : decode cX13_isSlot 6 = .ok (.invokestatic 66, 3) := by decide +kernel
theorem dX13_isSlot_9 : decode cX13_isSlot 9 = .ok (.ireturn, 1) := by decide +kernel
noncomputable def tX13_isSlot_0 : qT (Int32 × qM) :=
  oLi 0 (oI2l (oC (.long (0 : Int64)) (oC (.long (19 : Int64)) (oCi GX13_in 3 (eZ)))))
set_option maxRecDepth 20000 in
theorem sX13_isSlot_0 {C : qCx} {w : qWp} (h : qOk C w RX13 cX13_isSlot 1 1 155 155) (hm : qMt C (some .boolean)) (hx : qNx C) : qSnd C w 1 155 (qQf C w 155 155 jI) qfin 155 0 (tX13_isSlot_0) :=
  cLi (pc := 0) h dX13_isSlot_0 rfl (aI2l (pc := 1) h dX13_isSlot_1 (cJ (pc := 2) h dX13_isSlot_2 rfl (cKJ (pc := 3) h dX13_isSlot_3 fc_X13_349 (kCi (pc := 6) h (kd_X13_66 h dX13_isSlot_6) spX13_in (by decide) (by decide) (by decide) (by decide) (zZ (pc := 9) h hm (Nat.le_refl _) dX13_isSlot_9)))))
set_option maxRecDepth 20000 in
theorem lX13_isSlot_0 (a0 : Int32) (m : qM) : tX13_isSlot_0 [some (.int a0)] [] m = fX13_isSlot_0 a0 m := rfl
noncomputable def GX13_isSlot : qG Int32 := fun av m => match av with
  | [.int a0] => fX13_isSlot a0 m
  | _ => none
theorem spX13_isSlot : qSpI yX13_isSlot (.code yX13_isSlot cX13_isSlot 1 (some .boolean)) 1 qfin 155 155 0 GX13_isSlot := by
  intro av m x m' hG
  unfold GX13_isSlot at hG
  split at hG
  · rename_i a0
    rw [fX13_isSlot_d] at hG
    exact ⟨qmeet (J := jI) (r := (x, m')) (av := [.int a0]) (by decide +kernel) (Nat.le_of_ble_eq_true rfl) (fun C w h hm hx hn => sX13_isSlot_0 h hm hx) ((lX13_isSlot_0 _ _).trans hG) (Nat.le_of_ble_eq_true rfl), trivial⟩
  · cases hG
theorem im_X13_isSlot : Jvm.Cond.static yX13_isSlot ∈ qTw := qm8 (List.mem_of_getElem? (i := 114) (by decide +kernel)) (by decide +kernel)
theorem co_X13_isSlot : Jvm.Cond.code yX13_isSlot cX13_isSlot 1 (some .boolean) ∈ qTw := qm8 (List.mem_of_getElem? (i := 115) (by decide +kernel)) (by decide +kernel)
theorem yk_X13_isSlot : qYk yX13_isSlot 1 := ⟨⟨by decide +kernel, by decide +kernel⟩, by decide +kernel⟩
theorem ml_X13_351 : Jvm.Cond.methodLink RX13 351 yX13_isSlot ∈ qTw := qm8 (List.mem_of_getElem? (i := 113) (by decide +kernel)) (by decide +kernel)
theorem kd_X13_351 {C : qCx} {w : qWp} {cc : ByteArray} {nL dp n0 n1 pc : Nat} (h : qOk C w RX13 cc nL dp n0 n1) (d : decode cc pc = .ok (.invokestatic 351, 3)) : qCallOk C w nL dp n0 n1 pc 1 0 yX13_isSlot (.code yX13_isSlot cX13_isSlot 1 (some .boolean)) := kindS h d ml_X13_351 im_X13_isSlot in_ParentEveModel co_X13_isSlot yk_X13_isSlot (by decide)
theorem dX13_areSlots_0 : decode cX13_areSlots 0 = .ok (.iload_n 0, 1) := by decide +kernel
theorem dX13_areSlots_1 : decode cX13_areSlots 1 = .ok (.invokestatic 351, 3) := by decide +kernel
theorem dX13_areSlots_4 : decode cX13_areSlots 4 = .ok (.ifCond .eq 20, 3) := by decide +kernel
theorem dX13_areSlots_7 : decode cX13_areSlots 7 = .ok (.iload_n 1, 1) := by decide +kernel
theorem dX13_areSlots_8 : decode cX13_areSlots 8 = .ok (.i2l, 1) := by decide +kernel
theorem dX13_areSlots_9 : decode cX13_areSlots 9 = .ok (.iload_n 0, 1) := by decide +kernel
theorem dX13_areSlots_10 : decode cX13_areSlots 10 = .ok (.i2l, 1) := by decide +kernel
theorem dX13_areSlots_11 : decode cX13_areSlots 11 = .ok (.ldc2_w 349, 3) := by decide +kernel
theorem dX13_areSlots_14 : decode cX13_areSlots 14 = .ok (.invokestatic 66, 3) := by decide +kernel
theorem dX13_areSlots_17 : decode cX13_areSlots 17 = .ok (.ifCond .eq 7, 3) := by decide +kernel
theorem dX13_areSlots_20 : decode cX13_areSlots 20 = .ok (.iconst 1, 1) := by decide +kernel
theorem dX13_areSlots_21 : decode cX13_areSlots 21 = .ok (.goto 4, 3) := by decide +kernel
theorem dX13_areSlots_24 : decode cX13_areSlots 24 = .ok (.iconst 0, 1) := by decide +kernel
theorem dX13_areSlots_25 : decode cX13_areSlots 25 = .ok (.ireturn, 1) := by decide +kernel
noncomputable def tX13_areSlots_13 : qT (Int32 × qM) :=
  eZ
noncomputable def wX13_areSlots_13 (k : Int32 → qM → Option (Int32 × qM)) : qT (Int32 × qM) := fun lo st m => match lo, st with
  | [_, _], [.int s0] => k s0 m
  | _, _ => none
set_option maxRecDepth 20000 in
theorem sX13_areSlots_13 {C : qCx} {w : qWp} (h : qOk C w RX13 cX13_areSlots 2 2 155 155) (hm : qMt C (some .boolean)) (hx : qNx C) : qSnd C w 2 155 (qQf C w 155 155 jI) qfin 155 25 (tX13_areSlots_13) :=
  zZ (pc := 25) h hm (Nat.le_refl _) dX13_areSlots_25
set_option maxRecDepth 20000 in
theorem lX13_areSlots_13 (s0 : Int32) (m : qM) : tX13_areSlots_13 [none, none] [(.int s0)] m = fX13_areSlots_13 s0 m := rfl
theorem bX13_areSlots_13 {C : qCx} {w : qWp} (h : qOk C w RX13 cX13_areSlots 2 2 155 155) (hm : qMt C (some .boolean)) (hx : qNx C) : qSnd C w 2 155 (qQf C w 155 155 jI) qfin 155 25 (wX13_areSlots_13 fX13_areSlots_13) :=
  qSnd_of (fun lo st m x hr0 => by
    unfold wX13_areSlots_13 at hr0
    split at hr0
    · exact ⟨_, (qsub_n (qsub_n qsub_nil)), (lX13_areSlots_13 _ _).trans hr0⟩
    · cases hr0) (sX13_areSlots_13 h hm hx)
noncomputable def tX13_areSlots_12 (j13 : qT (Int32 × qM)) : qT (Int32 × qM) :=
  oC (.int (0 : Int32)) (j13)
noncomputable def wX13_areSlots_12 (k : qM → Option (Int32 × qM)) : qT (Int32 × qM) := fun lo st m => match lo, st with
  | [_, _], [] => k m
  | _, _ => none
set_option maxRecDepth 20000 in
theorem sX13_areSlots_12 {C : qCx} {w : qWp} (h : qOk C w RX13 cX13_areSlots 2 2 155 155) (hm : qMt C (some .boolean)) (hx : qNx C) {j13 : qT (Int32 × qM)} (k13 : qSnd C w 2 155 (qQf C w 155 155 jI) qfin 155 25 j13) : qSnd C w 2 155 (qQf C w 155 155 jI) qfin 155 24 (tX13_areSlots_12 j13) :=
  cC (pc := 24) h dX13_areSlots_24 rfl (k13)
set_option maxRecDepth 20000 in
theorem lX13_areSlots_12 (m : qM) : tX13_areSlots_12 (wX13_areSlots_13 fX13_areSlots_13) [none, none] [] m = fX13_areSlots_12 m := rfl
theorem bX13_areSlots_12 {C : qCx} {w : qWp} (h : qOk C w RX13 cX13_areSlots 2 2 155 155) (hm : qMt C (some .boolean)) (hx : qNx C) : qSnd C w 2 155 (qQf C w 155 155 jI) qfin 155 24 (wX13_areSlots_12 fX13_areSlots_12) :=
  qSnd_of (fun lo st m x hr0 => by
    unfold wX13_areSlots_12 at hr0
    split at hr0
    · exact ⟨_, (qsub_n (qsub_n qsub_nil)), (lX13_areSlots_12 _).trans hr0⟩
    · cases hr0) (sX13_areSlots_12 h hm hx (bX13_areSlots_13 h hm hx))
noncomputable def tX13_areSlots_0 (j12 : qT (Int32 × qM)) (j13 : qT (Int32 × qM)) : qT (Int32 × qM) :=
  oLi 0 (oCi GX13_isSlot 1 (oEq (j12) (oLi 1 (oI2l (oLi 0 (oI2l (oC (.long (19 : Int64)) (oCi GX13_in 3 (oEq (j12) (oC (.int (1 : Int32)) (j13)))))))))))
set_option maxRecDepth 20000 in
theorem sX13_areSlots_0 {C : qCx} {w : qWp} (h : qOk C w RX13 cX13_areSlots 2 2 155 155) (hm : qMt C (some .boolean)) (hx : qNx C) {j12 : qT (Int32 × qM)} {j13 : qT (Int32 × qM)} (k12 : qSnd C w 2 155 (qQf C w 155 155 jI) qfin 155 24 j12) (k13 : qSnd C w 2 155 (qQf C w 155 155 jI) qfin 155 25 j13) : qSnd C w 2 155 (qQf C w 155 155 jI) qfin 155 0 (tX13_areSlots_0 j12 j13) :=
  cLi (pc := 0) h dX13_areSlots_0 rfl (kCi (pc := 1) h (kd_X13_351 h dX13_areSlots_1) spX13_isSlot (by decide) (by decide) (by decide) (by decide) (jEq (pc := 4) h dX13_areSlots_4 rfl (k12) (cLi (pc := 7) h dX13_areSlots_7 rfl (aI2l (pc := 8) h dX13_areSlots_8 (cLi (pc := 9) h dX13_areSlots_9 rfl (aI2l (pc := 10) h dX13_areSlots_10 (cKJ (pc := 11) h dX13_areSlots_11 fc_X13_349 (kCi (pc := 14) h (kd_X13_66 h dX13_areSlots_14) spX13_in (by decide) (by decide) (by decide) (by decide) (jEq (pc := 17) h dX13_areSlots_17 rfl (k12) (cC (pc := 20) h dX13_areSlots_20 rfl (jGo (pc := 21) h dX13_areSlots_21 rfl (k13))))))))))))
set_option maxRecDepth 20000 in
theorem lX13_areSlots_0 (a0 : Int32) (a1 : Int32) (m : qM) : tX13_areSlots_0 (wX13_areSlots_12 fX13_areSlots_12) (wX13_areSlots_13 fX13_areSlots_13) [some (.int a0), some (.int a1)] [] m = fX13_areSlots_0 a0 a1 m := rfl
noncomputable def GX13_areSlots : qG Int32 := fun av m => match av with
  | [.int a0, .int a1] => fX13_areSlots a0 a1 m
  | _ => none
theorem spX13_areSlots : qSpI yX13_areSlots (.code yX13_areSlots cX13_areSlots 2 (some .boolean)) 2 qfin 155 155 0 GX13_areSlots := by
  intro av m x m' hG
  unfold GX13_areSlots at hG
  split at hG
  · rename_i a0 a1
    rw [fX13_areSlots_d] at hG
    exact ⟨qmeet (J := jI) (r := (x, m')) (av := [.int a0, .int a1]) (by decide +kernel) (Nat.le_of_ble_eq_true rfl) (fun C w h hm hx hn => sX13_areSlots_0 h hm hx (bX13_areSlots_12 h hm hx) (bX13_areSlots_13 h hm hx)) ((lX13_areSlots_0 _ _ _).trans hG) (Nat.le_of_ble_eq_true rfl), trivial⟩
  · cases hG
theorem mf_X13_183 : Jvm.Cond.fieldLink RX13 183 (qTb 13 21).1 (qTb 13 21).2.1 (qTb 13 21).2.2.1 ∈ qTw := qm6 (List.mem_of_getElem? (i := 239) (by decide +kernel)) (by decide +kernel)
theorem ff_X13_183_98 : qFd RX13 183 98 13 21 3 := ⟨mf_X13_183, rfl, by decide, rfl⟩
theorem mf_X13_186 : Jvm.Cond.fieldLink RX13 186 (qTb 13 22).1 (qTb 13 22).2.1 (qTb 13 22).2.2.1 ∈ qTw := qm7 (List.mem_of_getElem? (i := 0) (by decide +kernel)) (by decide +kernel)
theorem ff_X13_186_98 : qFd RX13 186 98 13 22 3 := ⟨mf_X13_186, rfl, by decide, rfl⟩
theorem dX13_room_0 : decode cX13_room 0 = .ok (.iload_n 1, 1) := by decide +kernel
theorem dX13_room_1 : decode cX13_room 1 = .ok (.invokestatic 340, 3) := by decide +kernel
theorem dX13_room_4 : decode cX13_room 4 = .ok (.ifCond .eq 27, 3) := by decide +kernel
theorem dX13_room_7 : decode cX13_room 7 = .ok (.iload_n 2, 1) := by decide +kernel
theorem dX13_room_8 : decode cX13_room 8 = .ok (.i2l, 1) := by decide +kernel
theorem dX13_room_9 : decode cX13_room 9 = .ok (.lconst 0, 1) := by decide +kernel
theorem dX13_room_10 : decode cX13_room 10 = .ok (.ldc2_w 345, 3) := by decide +kernel
theorem dX13_room_13 : decode cX13_room 13 = .ok (.invokestatic 66, 3) := by decide +kernel
theorem dX13_room_16 : decode cX13_room 16 = .ok (.ifCond .eq 15, 3) := by decide +kernel
theorem dX13_room_19 : decode cX13_room 19 = .ok (.iload_n 3, 1) := by decide +kernel
theorem dX13_room_20 : decode cX13_room 20 = .ok (.i2l, 1) := by decide +kernel
theorem dX13_room_21 : decode cX13_room 21 = .ok (.lconst 0, 1) := by decide +kernel
theorem dX13_room_22 : decode cX13_room 22 = .ok (.ldc2_w 345, 3) := by decide +kernel
theorem dX13_room_25 : decode cX13_room 25 = .ok (.invokestatic 66, 3) := by decide +kernel
theorem dX13_room_28 : decode cX13_room 28 = .ok (.ifCond .ne 6, 3) := by decide +kernel
theorem dX13_room_31 : decode cX13_room 31 = .ok (.bipush (-2), 2) := by decide +kernel
theorem dX13_room_33 : decode cX13_room 33 = .ok (.ireturn, 1) := by decide +kernel
theorem dX13_room_34 : decode cX13_room 34 = .ok (.aload_n 0, 1) := by decide +kernel
theorem dX13_room_35 : decode cX13_room 35 = .ok (.invokevirtual 326, 3) := by decide +kernel
theorem dX13_room_38 : decode cX13_room 38 = .ok (.ifCond .eq 6, 3) := by decide +kernel
theorem dX13_room_41 : decode cX13_room 41 = .ok (.bipush (-4), 2) := by decide +kernel
theorem dX13_room_43 : decode cX13_room 43 = .ok (.ireturn, 1) := by decide +kernel
theorem dX13_room_44 : decode cX13_room 44 = .ok (.aload_n 0, 1) := by decide +kernel
theorem dX13_room_45 : decode cX13_room 45 = .ok (.getfield 183, 3) := by decide +kernel
theorem dX13_room_48 : decode cX13_room 48 = .ok (.iload_n 1, 1) := by decide +kernel
theorem dX13_room_49 : decode cX13_room 49 = .ok (.iload_n 2, 1) := by decide +kernel
theorem dX13_room_50 : decode cX13_room 50 = .ok (.iastore, 1) := by decide +kernel
theorem dX13_room_51 : decode cX13_room 51 = .ok (.aload_n 0, 1) := by decide +kernel
theorem dX13_room_52 : decode cX13_room 52 = .ok (.getfield 186, 3) := by decide +kernel
theorem dX13_room_55 : decode cX13_room 55 = .ok (.iload_n 1, 1) := by decide +kernel
theorem dX13_room_56 : decode cX13_room 56 = .ok (.iload_n 3, 1) := by decide +kernel
theorem dX13_room_57 : decode cX13_room 57 = .ok (.iastore, 1) := by decide +kernel
theorem dX13_room_58 : decode cX13_room 58 = .ok (.iconst 1, 1) := by decide +kernel
theorem dX13_room_59 : decode cX13_room 59 = .ok (.ireturn, 1) := by decide +kernel
noncomputable def tX13_room_15 : qT (Int32 × qM) :=
  oC (.int (-2 : Int32)) (eI)
noncomputable def wX13_room_15 (k : qM → Option (Int32 × qM)) : qT (Int32 × qM) := fun lo st m => match lo, st with
  | [_, _, _, _], [] => k m
  | _, _ => none
set_option maxRecDepth 20000 in
theorem sX13_room_15 {C : qCx} {w : qWp} (h : qOk C w RX13 cX13_room 4 2 155 155) (hm : qMt C (some .int)) (hx : qNx C) : qSnd C w 4 155 (qQf C w 155 155 jI) qfin 155 31 (tX13_room_15) :=
  cB (pc := 31) h dX13_room_31 rfl (zI (pc := 33) h hm (Nat.le_refl _) dX13_room_33)
set_option maxRecDepth 20000 in
theorem lX13_room_15 (m : qM) : tX13_room_15 [none, none, none, none] [] m = fX13_room_15 m := rfl
theorem bX13_room_15 {C : qCx} {w : qWp} (h : qOk C w RX13 cX13_room 4 2 155 155) (hm : qMt C (some .int)) (hx : qNx C) : qSnd C w 4 155 (qQf C w 155 155 jI) qfin 155 31 (wX13_room_15 fX13_room_15) :=
  qSnd_of (fun lo st m x hr0 => by
    unfold wX13_room_15 at hr0
    split at hr0
    · exact ⟨_, (qsub_n (qsub_n (qsub_n (qsub_n qsub_nil)))), (lX13_room_15 _).trans hr0⟩
    · cases hr0) (sX13_room_15 h hm hx)
noncomputable def tX13_room_0 (j15 : qT (Int32 × qM)) : qT (Int32 × qM) :=
  oLi 1 (oCi GX13_isTeacher 1 (oEq (j15) (oLi 2 (oI2l (oC (.long (0 : Int64)) (oC (.long (9 : Int64)) (oCi GX13_in 3 (oEq (j15) (oLi 3 (oI2l (oC (.long (0 : Int64)) (oC (.long (9 : Int64)) (oCi GX13_in 3 (oEq (j15) (oLa 0 (oCi GX13_isFixed 1 (oEq (oLa 0 (oGf 98 21 112 (oLi 1 (oLi 2 (oWi 112 10 (oLa 0 (oGf 98 22 113 (oLi 1 (oLi 3 (oWi 113 10 (oC (.int (1 : Int32)) (eI)))))))))))) (oC (.int (-4 : Int32)) (eI)))))))))))))))))))
set_option maxRecDepth 20000 in
theorem sX13_room_0 {C : qCx} {w : qWp} (h : qOk C w RX13 cX13_room 4 2 155 155) (hm : qMt C (some .int)) (hx : qNx C) {j15 : qT (Int32 × qM)} (k15 : qSnd C w 4 155 (qQf C w 155 155 jI) qfin 155 31 j15) : qSnd C w 4 155 (qQf C w 155 155 jI) qfin 155 0 (tX13_room_0 j15) :=
  cLi (pc := 0) h dX13_room_0 rfl (kCi (pc := 1) h (kd_X13_340 h dX13_room_1) spX13_isTeacher (by decide) (by decide) (by decide) (by decide) (jEq (pc := 4) h dX13_room_4 rfl (k15) (cLi (pc := 7) h dX13_room_7 rfl (aI2l (pc := 8) h dX13_room_8 (cJ (pc := 9) h dX13_room_9 rfl (cKJ (pc := 10) h dX13_room_10 fc_X13_345 (kCi (pc := 13) h (kd_X13_66 h dX13_room_13) spX13_in (by decide) (by decide) (by decide) (by decide) (jEq (pc := 16) h dX13_room_16 rfl (k15) (cLi (pc := 19) h dX13_room_19 rfl (aI2l (pc := 20) h dX13_room_20 (cJ (pc := 21) h dX13_room_21 rfl (cKJ (pc := 22) h dX13_room_22 fc_X13_345 (kCi (pc := 25) h (kd_X13_66 h dX13_room_25) spX13_in (by decide) (by decide) (by decide) (by decide) (jNe (pc := 28) h dX13_room_28 rfl (cLa (pc := 34) h dX13_room_34 rfl (kCi (pc := 35) h (kd_X13_326 h dX13_room_35) spX13_isFixed (by decide) (by decide) (by decide) (by decide) (jEq (pc := 38) h dX13_room_38 rfl (cLa (pc := 44) h dX13_room_44 rfl (gGf (pc := 45) h dX13_room_45 ff_X13_183_98 (Nat.le_of_ble_eq_true rfl) (Nat.le_of_ble_eq_true rfl) rfl (cLi (pc := 48) h dX13_room_48 rfl (cLi (pc := 49) h dX13_room_49 rfl (rWi (pc := 50) h dX13_room_50 rfl (Nat.le_of_ble_eq_true rfl) (Nat.le_of_ble_eq_true rfl) (cLa (pc := 51) h dX13_room_51 rfl (gGf (pc := 52) h dX13_room_52 ff_X13_186_98 (Nat.le_of_ble_eq_true rfl) (Nat.le_of_ble_eq_true rfl) rfl (cLi (pc := 55) h dX13_room_55 rfl (cLi (pc := 56) h dX13_room_56 rfl (rWi (pc := 57) h dX13_room_57 rfl (Nat.le_of_ble_eq_true rfl) (Nat.le_of_ble_eq_true rfl) (cC (pc := 58) h dX13_room_58 rfl (zI (pc := 59) h hm (Nat.le_refl _) dX13_room_59)))))))))))) (cB (pc := 41) h dX13_room_41 rfl (zI (pc := 43) h hm (Nat.le_refl _) dX13_room_43))))) (k15)))))))))))))))
set_option maxRecDepth 20000 in
theorem lX13_room_0 (a1 : Int32) (a2 : Int32) (a3 : Int32) (m : qM) : tX13_room_0 (wX13_room_15 fX13_room_15) [some (.ref 98), some (.int a1), some (.int a2), some (.int a3)] [] m = fX13_room_0 a1 a2 a3 m := rfl
noncomputable def GX13_room : qG Int32 := fun av m => match av with
  | [.ref 98, .int a1, .int a2, .int a3] => fX13_room a1 a2 a3 m
  | _ => none
theorem spX13_room : qSpI yX13_room (.code yX13_room cX13_room 4 (some .int)) 2 qfin 155 155 1 GX13_room := by
  intro av m x m' hG
  unfold GX13_room at hG
  split at hG
  · rename_i a1 a2 a3
    rw [fX13_room_d] at hG
    exact ⟨qmeet (J := jI) (r := (x, m')) (av := [.ref 98, .int a1, .int a2, .int a3]) (by decide +kernel) (Nat.le_of_ble_eq_true rfl) (fun C w h hm hx hn => sX13_room_0 h hm hx (bX13_room_15 h hm hx)) ((lX13_room_0 _ _ _ _).trans hG) (Nat.le_of_ble_eq_true rfl), Or.inl ⟨98, _, 13, _, _, rfl, by decide, rfl, qCk_13, rfl⟩⟩
  · cases hG

