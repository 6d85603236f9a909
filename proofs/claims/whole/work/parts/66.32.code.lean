/-! methods (by program): X11_meeting, X11_off, X11_next, X11_messages, X11_mend, X11_note, X11_let, X11_read, X11_find, X11_found, X11_count, X13_in, X13_wrong, X13_byteAt, X13_isSmall, X13_isDigit -/
theorem im_X9_knownAt : Jvm.Cond.instanceMethod yX9_knownAt ∈ qTw := qm5 (List.mem_of_getElem? (i := 115) (by decide +kernel)) (by decide +kernel)
theorem se_X9_knownAt : Jvm.Cond.selects yX9_knownAt.cls yX9_knownAt yX9_knownAt ∈ qTw := qm5 (List.mem_of_getElem? (i := 116) (by decide +kernel)) (by decide +kernel)
theorem co_X9_knownAt : Jvm.Cond.code yX9_knownAt cX9_knownAt 3 (some .int) ∈ qTw := qm5 (List.mem_of_getElem? (i := 117) (by decide +kernel)) (by decide +kernel)
theorem yk_X9_knownAt : qYk yX9_knownAt 1 := ⟨⟨by decide +kernel, by decide +kernel⟩, by decide +kernel⟩
theorem ml_X11_290 : Jvm.Cond.methodLink RX11 290 yX9_knownAt ∈ qTw := qm5 (List.mem_of_getElem? (i := 114) (by decide +kernel)) (by decide +kernel)
theorem kd_X11_290 {C : qCx} {w : qWp} {cc : ByteArray} {nL dp n0 n1 pc : Nat} (h : qOk C w RX11 cc nL dp n0 n1) (d : decode cc pc = .ok (.invokevirtual 290, 3)) : qCallOk C w nL dp n0 n1 pc 2 1 yX9_knownAt (.code yX9_knownAt cX9_knownAt 3 (some .int)) := kindV h d ml_X11_290 im_X9_knownAt se_X9_knownAt in_ParentEve_Tellings co_X9_knownAt yk_X9_knownAt (by decide)
theorem im_X1_makeReady : Jvm.Cond.instanceMethod yX1_makeReady ∈ qTw := qm5 (List.mem_of_getElem? (i := 119) (by decide +kernel)) (by decide +kernel)
theorem se_X1_makeReady : Jvm.Cond.selects yX1_makeReady.cls yX1_makeReady yX1_makeReady ∈ qTw := qm5 (List.mem_of_getElem? (i := 120) (by decide +kernel)) (by decide +kernel)
theorem co_X1_makeReady : Jvm.Cond.code yX1_makeReady cX1_makeReady 5 none ∈ qTw := qm5 (List.mem_of_getElem? (i := 121) (by decide +kernel)) (by decide +kernel)
theorem yk_X1_makeReady : qYk yX1_makeReady 1 := ⟨⟨by decide +kernel, by decide +kernel⟩, by decide +kernel⟩
theorem ml_X11_293 : Jvm.Cond.methodLink RX11 293 yX1_makeReady ∈ qTw := qm5 (List.mem_of_getElem? (i := 118) (by decide +kernel)) (by decide +kernel)
theorem kd_X11_293 {C : qCx} {w : qWp} {cc : ByteArray} {nL dp n0 n1 pc : Nat} (h : qOk C w RX11 cc nL dp n0 n1) (d : decode cc pc = .ok (.invokevirtual 293, 3)) : qCallOk C w nL dp n0 n1 pc 2 1 yX1_makeReady (.code yX1_makeReady cX1_makeReady 5 none) := kindV h d ml_X11_293 im_X1_makeReady se_X1_makeReady in_ParentEve_Evening co_X1_makeReady yk_X1_makeReady (by decide)
theorem ml_X11_296 : Jvm.Cond.methodLink RX11 296 yX1_startOf ∈ qTw := qm5 (List.mem_of_getElem? (i := 222) (by decide +kernel)) (by decide +kernel)
theorem kd_X11_296 {C : qCx} {w : qWp} {cc : ByteArray} {nL dp n0 n1 pc : Nat} (h : qOk C w RX11 cc nL dp n0 n1) (d : decode cc pc = .ok (.invokevirtual 296, 3)) : qCallOk C w nL dp n0 n1 pc 3 1 yX1_startOf (.code yX1_startOf cX1_startOf 4 (some .int)) := kindV h d ml_X11_296 im_X1_startOf se_X1_startOf in_ParentEve_Evening co_X1_startOf yk_X1_startOf (by decide)
theorem ml_X11_299 : Jvm.Cond.methodLink RX11 299 yX1_stopOf ∈ qTw := qm5 (List.mem_of_getElem? (i := 226) (by decide +kernel)) (by decide +kernel)
theorem kd_X11_299 {C : qCx} {w : qWp} {cc : ByteArray} {nL dp n0 n1 pc : Nat} (h : qOk C w RX11 cc nL dp n0 n1) (d : decode cc pc = .ok (.invokevirtual 299, 3)) : qCallOk C w nL dp n0 n1 pc 3 1 yX1_stopOf (.code yX1_stopOf cX1_stopOf 4 (some .int)) := kindV h d ml_X11_299 im_X1_stopOf se_X1_stopOf in_ParentEve_Evening co_X1_stopOf yk_X1_stopOf (by decide)
theorem dX11_meeting_0 : decode cX11_meeting 0 = .ok (.aload_n 0, 1) := by decide +kernel
theorem dX11_meeting_1 : decode cX11_meeting 1 = .ok (.getfield 53, 3) := by decide +kernel
theorem dX11_meeting_4 : decode cX11_meeting 4 = .ok (.iload_n 1, 1) := by decide +kernel
theorem dX11_meeting_5 : decode cX11_meeting 5 = .ok (.invokevirtual 196, 3) := by decide +kernel
theorem dX11_meeting_8 : decode cX11_meeting 8 = .ok (.ifCond .eq 19, 3) := by decide +kernel
theorem dX11_meeting_11 : decode cX11_meeting 11 = .ok (.iload_n 2, 1) := by decide +kernel
theorem dX11_meeting_12 : decode cX11_meeting 12 = .ok (.invokestatic 287, 3) := by decide +kernel
theorem dX11_meeting_15 : decode cX11_meeting 15 = .ok (.ifCond .eq 12, 3) := by decide +kernel
theorem dX11_meeting_18 : decode cX11_meeting 18 = .ok (.iload_n 3, 1) := by decide +kernel
theorem dX11_meeting_19 : decode cX11_meeting 19 = .ok (.iconst 0, 1) := by decide +kernel
theorem dX11_meeting_20 : decode cX11_meeting 20 = .ok (.iconst 3, 1) := by decide +kernel
theorem dX11_meeting_21 : decode cX11_meeting 21 = .ok (.invokestatic 103, 3) := by decide +kernel
theorem dX11_meeting_24 : decode cX11_meeting 24 = .ok (.ifCond .ne 6, 3) := by decide +kernel
theorem dX11_meeting_27 : decode cX11_meeting 27 = .ok (.bipush (-2), 2) := by decide +kernel
theorem dX11_meeting_29 : decode cX11_meeting 29 = .ok (.ireturn, 1) := by decide +kernel
theorem dX11_meeting_30 : decode cX11_meeting 30 = .ok (.aload_n 0, 1) := by decide +kernel
theorem dX11_meeting_31 : decode cX11_meeting 31 = .ok (.getfield 91, 3) := by decide +kernel
theorem dX11_meeting_34 : decode cX11_meeting 34 = .ok (.ifCond .eq 14, 3) := by decide +kernel
theorem dX11_meeting_37 : decode cX11_meeting 37 = .ok (.aload_n 0, 1) := by decide +kernel
theorem dX11_meeting_38 : decode cX11_meeting 38 = .ok (.getfield 53, 3) := by decide +kernel
theorem dX11_meeting_41 : decode cX11_meeting 41 = .ok (.iload_n 1, 1) := by decide +kernel
theorem dX11_meeting_42 : decode cX11_meeting 42 = .ok (.invokevirtual 199, 3) := by decide +kernel
theorem dX11_meeting_45 : decode cX11_meeting 45 = .ok (.ifCond .ne 6, 3) := by decide +kernel
theorem dX11_meeting_48 : decode cX11_meeting 48 = .ok (.bipush (-4), 2) := by decide +kernel
theorem dX11_meeting_50 : decode cX11_meeting 50 = .ok (.ireturn, 1) := by decide +kernel
theorem dX11_meeting_51 : decode cX11_meeting 51 = .ok (.aload_n 0, 1) := by decide +kernel
theorem dX11_meeting_52 : decode cX11_meeting 52 = .ok (.getfield 69, 3) := by decide +kernel
theorem dX11_meeting_55 : decode cX11_meeting 55 = .ok (.iload_n 2, 1) := by decide +kernel
theorem dX11_meeting_56 : decode cX11_meeting 56 = .ok (.invokevirtual 290, 3) := by decide +kernel
theorem dX11_meeting_59 : decode cX11_meeting 59 = .ok (.istore 4, 2) := by decide +kernel
theorem dX11_meeting_61 : decode cX11_meeting 61 = .ok (.aload_n 0, 1) := by decide +kernel
theorem dX11_meeting_62 : decode cX11_meeting 62 = .ok (.getfield 78, 3) := by decide +kernel
theorem dX11_meeting_65 : decode cX11_meeting 65 = .ok (.iload 4, 2) := by decide +kernel
theorem dX11_meeting_67 : decode cX11_meeting 67 = .ok (.invokevirtual 293, 3) := by decide +kernel
theorem dX11_meeting_70 : decode cX11_meeting 70 = .ok (.aload_n 0, 1) := by decide +kernel
theorem dX11_meeting_71 : decode cX11_meeting 71 = .ok (.getfield 78, 3) := by decide +kernel
theorem dX11_meeting_74 : decode cX11_meeting 74 = .ok (.iload_n 1, 1) := by decide +kernel
theorem dX11_meeting_75 : decode cX11_meeting 75 = .ok (.iload 4, 2) := by decide +kernel
theorem dX11_meeting_77 : decode cX11_meeting 77 = .ok (.invokevirtual 296, 3) := by decide +kernel
theorem dX11_meeting_80 : decode cX11_meeting 80 = .ok (.istore 5, 2) := by decide +kernel
theorem dX11_meeting_82 : decode cX11_meeting 82 = .ok (.aload_n 0, 1) := by decide +kernel
theorem dX11_meeting_83 : decode cX11_meeting 83 = .ok (.getfield 78, 3) := by decide +kernel
theorem dX11_meeting_86 : decode cX11_meeting 86 = .ok (.iload_n 1, 1) := by decide +kernel
theorem dX11_meeting_87 : decode cX11_meeting 87 = .ok (.iload 4, 2) := by decide +kernel
theorem dX11_meeting_89 : decode cX11_meeting 89 = .ok (.invokevirtual 299, 3) := by decide +kernel
theorem dX11_meeting_92 : decode cX11_meeting 92 = .ok (.istore 6, 2) := by decide +kernel
theorem dX11_meeting_94 : decode cX11_meeting 94 = .ok (.iload_n 3, 1) := by decide +kernel
theorem dX11_meeting_95 : decode cX11_meeting 95 = .ok (.tableswitch 43 0 2 #[25, 28, 31], 25) := by decide +kernel
theorem dX11_meeting_120 : decode cX11_meeting 120 = .ok (.iload 5, 2) := by decide +kernel
theorem dX11_meeting_122 : decode cX11_meeting 122 = .ok (.ireturn, 1) := by decide +kernel
theorem dX11_meeting_123 : decode cX11_meeting 123 = .ok (.iload 6, 2) := by decide +kernel
theorem dX11_meeting_125 : decode cX11_meeting 125 = .ok (.ireturn, 1) := by decide +kernel
theorem dX11_meeting_126 : decode cX11_meeting 126 = .ok (.iload 5, 2) := by decide +kernel
theorem dX11_meeting_128 : decode cX11_meeting 128 = .ok (.iconst (-1), 1) := by decide +kernel
theorem dX11_meeting_129 : decode cX11_meeting 129 = .ok (.if_icmp .ne 7, 3) := by decide +kernel
theorem dX11_meeting_132 : decode cX11_meeting 132 = .ok (.iconst 1, 1) := by decide +kernel
theorem dX11_meeting_133 : decode cX11_meeting 133 = .ok (.goto 4, 3) := by decide +kernel
theorem dX11_meeting_136 : decode cX11_meeting 136 = .ok (.iconst 0, 1) := by decide +kernel
theorem dX11_meeting_137 : decode cX11_meeting 137 = .ok (.ireturn, 1) := by decide +kernel
theorem dX11_meeting_138 : decode cX11_meeting 138 = .ok (.iload 6, 2) := by decide +kernel
theorem dX11_meeting_140 : decode cX11_meeting 140 = .ok (.iload 5, 2) := by decide +kernel
theorem dX11_meeting_142 : decode cX11_meeting 142 = .ok (.isub, 1) := by decide +kernel
theorem dX11_meeting_143 : decode cX11_meeting 143 = .ok (.ireturn, 1) := by decide +kernel
noncomputable def tX11_meeting_13 : qT (Int32 × qM) :=
  oC (.int (-2 : Int32)) (eI)
noncomputable def wX11_meeting_13 (k : qM → Option (Int32 × qM)) : qT (Int32 × qM) := fun lo st m => match lo, st with
  | [_, _, _, _, _, _, _], [] => k m
  | _, _ => none
set_option maxRecDepth 20000 in
theorem sX11_meeting_13 {C : qCx} {w : qWp} (h : qOk C w RX11 cX11_meeting 7 6 155 155) (hm : qMt C (some .int)) (hx : qNx C) : qSnd C w 7 155 (qQf C w 155 155 jI) qfin 155 27 (tX11_meeting_13) :=
  cB (pc := 27) h dX11_meeting_27 rfl (zI (pc := 29) h hm (Nat.le_refl _) dX11_meeting_29)
set_option maxRecDepth 20000 in
theorem lX11_meeting_13 (m : qM) : tX11_meeting_13 [none, none, none, none, none, none, none] [] m = fX11_meeting_13 m := rfl
theorem bX11_meeting_13 {C : qCx} {w : qWp} (h : qOk C w RX11 cX11_meeting 7 6 155 155) (hm : qMt C (some .int)) (hx : qNx C) : qSnd C w 7 155 (qQf C w 155 155 jI) qfin 155 27 (wX11_meeting_13 fX11_meeting_13) :=
  qSnd_of (fun lo st m x hr0 => by
    unfold wX11_meeting_13 at hr0
    split at hr0
    · exact ⟨_, (qsub_n (qsub_n (qsub_n (qsub_n (qsub_n (qsub_n (qsub_n qsub_nil))))))), (lX11_meeting_13 _).trans hr0⟩
    · cases hr0) (sX11_meeting_13 h hm hx)
noncomputable def tX11_meeting_23 : qT (Int32 × qM) :=
  oC (.int (-4 : Int32)) (eI)
noncomputable def wX11_meeting_23 (k : qM → Option (Int32 × qM)) : qT (Int32 × qM) := fun lo st m => match lo, st with
  | [_, _, _, _, _, _, _], [] => k m
  | _, _ => none
set_option maxRecDepth 20000 in
theorem sX11_meeting_23 {C : qCx} {w : qWp} (h : qOk C w RX11 cX11_meeting 7 6 155 155) (hm : qMt C (some .int)) (hx : qNx C) : qSnd C w 7 155 (qQf C w 155 155 jI) qfin 155 48 (tX11_meeting_23) :=
  cB (pc := 48) h dX11_meeting_48 rfl (zI (pc := 50) h hm (Nat.le_refl _) dX11_meeting_50)
set_option maxRecDepth 20000 in
theorem lX11_meeting_23 (m : qM) : tX11_meeting_23 [none, none, none, none, none, none, none] [] m = fX11_meeting_23 m := rfl
theorem bX11_meeting_23 {C : qCx} {w : qWp} (h : qOk C w RX11 cX11_meeting 7 6 155 155) (hm : qMt C (some .int)) (hx : qNx C) : qSnd C w 7 155 (qQf C w 155 155 jI) qfin 155 48 (wX11_meeting_23 fX11_meeting_23) :=
  qSnd_of (fun lo st m x hr0 => by
    unfold wX11_meeting_23 at hr0
    split at hr0
    · exact ⟨_, (qsub_n (qsub_n (qsub_n (qsub_n (qsub_n (qsub_n (qsub_n qsub_nil))))))), (lX11_meeting_23 _).trans hr0⟩
    · cases hr0) (sX11_meeting_23 h hm hx)
noncomputable def tX11_meeting_58 : qT (Int32 × qM) :=
  eI
noncomputable def wX11_meeting_58 (k : Int32 → qM → Option (Int32 × qM)) : qT (Int32 × qM) := fun lo st m => match lo, st with
  | [_, _, _, _, _, _, _], [.int s0] => k s0 m
  | _, _ => none
set_option maxRecDepth 20000 in
theorem sX11_meeting_58 {C : qCx} {w : qWp} (h : qOk C w RX11 cX11_meeting 7 6 155 155) (hm : qMt C (some .int)) (hx : qNx C) : qSnd C w 7 155 (qQf C w 155 155 jI) qfin 155 137 (tX11_meeting_58) :=
  zI (pc := 137) h hm (Nat.le_refl _) dX11_meeting_137
set_option maxRecDepth 20000 in
theorem lX11_meeting_58 (s0 : Int32) (m : qM) : tX11_meeting_58 [none, none, none, none, none, none, none] [(.int s0)] m = fX11_meeting_58 s0 m := rfl
theorem bX11_meeting_58 {C : qCx} {w : qWp} (h : qOk C w RX11 cX11_meeting 7 6 155 155) (hm : qMt C (some .int)) (hx : qNx C) : qSnd C w 7 155 (qQf C w 155 155 jI) qfin 155 137 (wX11_meeting_58 fX11_meeting_58) :=
  qSnd_of (fun lo st m x hr0 => by
    unfold wX11_meeting_58 at hr0
    split at hr0
    · exact ⟨_, (qsub_n (qsub_n (qsub_n (qsub_n (qsub_n (qsub_n (qsub_n qsub_nil))))))), (lX11_meeting_58 _ _).trans hr0⟩
    · cases hr0) (sX11_meeting_58 h hm hx)
noncomputable def tX11_meeting_0 (j13 : qT (Int32 × qM)) (j23 : qT (Int32 × qM)) (j58 : qT (Int32 × qM)) : qT (Int32 × qM) :=
  oLa 0 (oGf 0 5 58 (oLi 1 (oCi GX4_isAsk 2 (oEq (j13) (oLi 2 (oCi GX11_isMinute 1 (oEq (j13) (oLi 3 (oC (.int (0 : Int32)) (oC (.int (3 : Int32)) (oCi GX11_within 3 (oEq (j13) (oLa 0 (oGi 0 10 (oEq (j23) (oLa 0 (oGf 0 5 58 (oLi 1 (oCi GX4_isLaid 2 (oEq (j23) (oLa 0 (oGf 0 7 74 (oLi 2 (oCi GX9_knownAt 2 (oSi 4 (oLa 0 (oGf 0 8 80 (oLi 4 (oCv GX1_makeReady 2 (oLa 0 (oGf 0 8 80 (oLi 1 (oLi 4 (oCi GX1_startOf 3 (oSi 5 (oLa 0 (oGf 0 8 80 (oLi 1 (oLi 4 (oCi GX1_stopOf 3 (oSi 6 (oLi 3 (oSw (0 : Int32) (oLi 6 (oLi 5 (o2 (· - ·) (eI)))) [oLi 5 (eI), oLi 6 (eI), oLi 5 (oC (.int (-1 : Int32)) (oCEq (oC (.int (1 : Int32)) (j58)) (oC (.int (0 : Int32)) (j58))))])))))))))))))))))))))))))))))))))))))))))))
set_option maxRecDepth 20000 in
theorem sX11_meeting_0 {C : qCx} {w : qWp} (h : qOk C w RX11 cX11_meeting 7 6 155 155) (hm : qMt C (some .int)) (hx : qNx C) {j13 : qT (Int32 × qM)} {j23 : qT (Int32 × qM)} {j58 : qT (Int32 × qM)} (k13 : qSnd C w 7 155 (qQf C w 155 155 jI) qfin 155 27 j13) (k23 : qSnd C w 7 155 (qQf C w 155 155 jI) qfin 155 48 j23) (k58 : qSnd C w 7 155 (qQf C w 155 155 jI) qfin 155 137 j58) : qSnd C w 7 155 (qQf C w 155 155 jI) qfin 155 0 (tX11_meeting_0 j13 j23 j58) :=
  cLa (pc := 0) h dX11_meeting_0 rfl (gGf (pc := 1) h dX11_meeting_1 ff_X11_53_0 (Nat.le_of_ble_eq_true rfl) (Nat.le_of_ble_eq_true rfl) rfl (cLi (pc := 4) h dX11_meeting_4 rfl (kCi (pc := 5) h (kd_X11_196 h dX11_meeting_5) spX4_isAsk (by decide) (by decide) (by decide) (by decide) (jEq (pc := 8) h dX11_meeting_8 rfl (k13) (cLi (pc := 11) h dX11_meeting_11 rfl (kCi (pc := 12) h (kd_X11_287 h dX11_meeting_12) spX11_isMinute (by decide) (by decide) (by decide) (by decide) (jEq (pc := 15) h dX11_meeting_15 rfl (k13) (cLi (pc := 18) h dX11_meeting_18 rfl (cC (pc := 19) h dX11_meeting_19 rfl (cC (pc := 20) h dX11_meeting_20 rfl (kCi (pc := 21) h (kd_X11_103 h dX11_meeting_21) spX11_within (by decide) (by decide) (by decide) (by decide) (jNe (pc := 24) h dX11_meeting_24 rfl (cLa (pc := 30) h dX11_meeting_30 rfl (gGz (pc := 31) h dX11_meeting_31 ff_X11_91_0 (Nat.le_of_ble_eq_true rfl) (Nat.le_of_ble_eq_true rfl) (jEq (pc := 34) h dX11_meeting_34 rfl (k23) (cLa (pc := 37) h dX11_meeting_37 rfl (gGf (pc := 38) h dX11_meeting_38 ff_X11_53_0 (Nat.le_of_ble_eq_true rfl) (Nat.le_of_ble_eq_true rfl) rfl (cLi (pc := 41) h dX11_meeting_41 rfl (kCi (pc := 42) h (kd_X11_199 h dX11_meeting_42) spX4_isLaid (by decide) (by decide) (by decide) (by decide) (jNe (pc := 45) h dX11_meeting_45 rfl (cLa (pc := 51) h dX11_meeting_51 rfl (gGf (pc := 52) h dX11_meeting_52 ff_X11_69_0 (Nat.le_of_ble_eq_true rfl) (Nat.le_of_ble_eq_true rfl) rfl (cLi (pc := 55) h dX11_meeting_55 rfl (kCi (pc := 56) h (kd_X11_290 h dX11_meeting_56) spX9_knownAt (by decide) (by decide) (by decide) (by decide) (cSI (pc := 59) h dX11_meeting_59 (cLa (pc := 61) h dX11_meeting_61 rfl (gGf (pc := 62) h dX11_meeting_62 ff_X11_78_0 (Nat.le_of_ble_eq_true rfl) (Nat.le_of_ble_eq_true rfl) rfl (cLI (pc := 65) h dX11_meeting_65 (kCv (pc := 67) h (kd_X11_293 h dX11_meeting_67) spX1_makeReady (by decide) (by decide) (by decide) (by decide) (cLa (pc := 70) h dX11_meeting_70 rfl (gGf (pc := 71) h dX11_meeting_71 ff_X11_78_0 (Nat.le_of_ble_eq_true rfl) (Nat.le_of_ble_eq_true rfl) rfl (cLi (pc := 74) h dX11_meeting_74 rfl (cLI (pc := 75) h dX11_meeting_75 (kCi (pc := 77) h (kd_X11_296 h dX11_meeting_77) spX1_startOf (by decide) (by decide) (by decide) (by decide) (cSI (pc := 80) h dX11_meeting_80 (cLa (pc := 82) h dX11_meeting_82 rfl (gGf (pc := 83) h dX11_meeting_83 ff_X11_78_0 (Nat.le_of_ble_eq_true rfl) (Nat.le_of_ble_eq_true rfl) rfl (cLi (pc := 86) h dX11_meeting_86 rfl (cLI (pc := 87) h dX11_meeting_87 (kCi (pc := 89) h (kd_X11_299 h dX11_meeting_89) spX1_stopOf (by decide) (by decide) (by decide) (by decide) (cSI (pc := 92) h dX11_meeting_92 (cLi (pc := 94) h dX11_meeting_94 rfl (jSw (pc := 95) (a := 0) h dX11_meeting_95 rfl rfl rfl (by decide) rfl (cLI (pc := 138) h dX11_meeting_138 (cLI (pc := 140) h dX11_meeting_140 (aSub (pc := 142) h dX11_meeting_142 (zI (pc := 143) h hm (Nat.le_refl _) dX11_meeting_143)))) ⟨⟨_, rfl, cLI (pc := 120) h dX11_meeting_120 (zI (pc := 122) h hm (Nat.le_refl _) dX11_meeting_122)⟩, ⟨⟨_, rfl, cLI (pc := 123) h dX11_meeting_123 (zI (pc := 125) h hm (Nat.le_refl _) dX11_meeting_125)⟩, ⟨⟨_, rfl, cLI (pc := 126) h dX11_meeting_126 (cC (pc := 128) h dX11_meeting_128 rfl (jCNe (pc := 129) h dX11_meeting_129 rfl (cC (pc := 136) h dX11_meeting_136 rfl (k58)) (cC (pc := 132) h dX11_meeting_132 rfl (jGo (pc := 133) h dX11_meeting_133 rfl (k58)))))⟩, trivial⟩⟩⟩))))))))))))))))))))))) (k23))))))))) (k13)))))))))))))
set_option maxRecDepth 20000 in
theorem lX11_meeting_0 (a1 : Int32) (a2 : Int32) (a3 : Int32) (m : qM) : tX11_meeting_0 (wX11_meeting_13 fX11_meeting_13) (wX11_meeting_23 fX11_meeting_23) (wX11_meeting_58 fX11_meeting_58) [some (.ref 0), some (.int a1), some (.int a2), some (.int a3), none, none, none] [] m = fX11_meeting_0 a1 a2 a3 m := rfl
noncomputable def GX11_meeting : qG Int32 := fun av m => match av with
  | [.ref 0, .int a1, .int a2, .int a3] => fX11_meeting a1 a2 a3 m
  | _ => none
theorem spX11_meeting : qSpI yX11_meeting (.code yX11_meeting cX11_meeting 7 (some .int)) 6 qfin 155 155 1 GX11_meeting := by
  intro av m x m' hG
  unfold GX11_meeting at hG
  split at hG
  · rename_i a1 a2 a3
    rw [fX11_meeting_d] at hG
    exact ⟨qmeet (J := jI) (r := (x, m')) (av := [.ref 0, .int a1, .int a2, .int a3]) (by decide +kernel) (Nat.le_of_ble_eq_true rfl) (fun C w h hm hx hn => sX11_meeting_0 h hm hx (bX11_meeting_13 h hm hx) (bX11_meeting_23 h hm hx) (bX11_meeting_58 h hm hx)) ((lX11_meeting_0 _ _ _ _).trans hG) (Nat.le_of_ble_eq_true rfl), Or.inl ⟨0, _, 11, _, _, rfl, by decide, rfl, qCk_11, rfl⟩⟩
  · cases hG
theorem ml_X11_302 : Jvm.Cond.methodLink RX11 302 yX9_size ∈ qTw := qm5 (List.mem_of_getElem? (i := 234) (by decide +kernel)) (by decide +kernel)
theorem kd_X11_302 {C : qCx} {w : qWp} {cc : ByteArray} {nL dp n0 n1 pc : Nat} (h : qOk C w RX11 cc nL dp n0 n1) (d : decode cc pc = .ok (.invokevirtual 302, 3)) : qCallOk C w nL dp n0 n1 pc 1 1 yX9_size (.code yX9_size cX9_size 1 (some .int)) := kindV h d ml_X11_302 im_X9_size se_X9_size in_ParentEve_Tellings co_X9_size yk_X9_size (by decide)
theorem im_X1_offAt : Jvm.Cond.instanceMethod yX1_offAt ∈ qTw := qm5 (List.mem_of_getElem? (i := 239) (by decide +kernel)) (by decide +kernel)
theorem se_X1_offAt : Jvm.Cond.selects yX1_offAt.cls yX1_offAt yX1_offAt ∈ qTw := qm6 (List.mem_of_getElem? (i := 0) (by decide +kernel)) (by decide +kernel)
theorem co_X1_offAt : Jvm.Cond.code yX1_offAt cX1_offAt 6 (some .int) ∈ qTw := qm6 (List.mem_of_getElem? (i := 1) (by decide +kernel)) (by decide +kernel)
theorem yk_X1_offAt : qYk yX1_offAt 2 := ⟨⟨by decide +kernel, by decide +kernel⟩, by decide +kernel⟩
theorem ml_X11_303 : Jvm.Cond.methodLink RX11 303 yX1_offAt ∈ qTw := qm5 (List.mem_of_getElem? (i := 238) (by decide +kernel)) (by decide +kernel)
theorem kd_X11_303 {C : qCx} {w : qWp} {cc : ByteArray} {nL dp n0 n1 pc : Nat} (h : qOk C w RX11 cc nL dp n0 n1) (d : decode cc pc = .ok (.invokevirtual 303, 3)) : qCallOk C w nL dp n0 n1 pc 3 1 yX1_offAt (.code yX1_offAt cX1_offAt 6 (some .int)) := kindV h d ml_X11_303 im_X1_offAt se_X1_offAt in_ParentEve_Evening co_X1_offAt yk_X1_offAt (by decide)
theorem dX11_off_0 : decode cX11_off 0 = .ok (.iload_n 1, 1) := by decide +kernel
theorem dX11_off_1 : decode cX11_off 1 = .ok (.invokestatic 287, 3) := by decide +kernel
theorem dX11_off_4 : decode cX11_off 4 = .ok (.ifCond .ne 6, 3) := by decide +kernel
theorem dX11_off_7 : decode cX11_off 7 = .ok (.bipush (-2), 2) := by decide +kernel
theorem dX11_off_9 : decode cX11_off 9 = .ok (.ireturn, 1) := by decide +kernel
theorem dX11_off_10 : decode cX11_off 10 = .ok (.aload_n 0, 1) := by decide +kernel
theorem dX11_off_11 : decode cX11_off 11 = .ok (.getfield 91, 3) := by decide +kernel
theorem dX11_off_14 : decode cX11_off 14 = .ok (.ifCond .ne 6, 3) := by decide +kernel
theorem dX11_off_17 : decode cX11_off 17 = .ok (.bipush (-4), 2) := by decide +kernel
theorem dX11_off_19 : decode cX11_off 19 = .ok (.ireturn, 1) := by decide +kernel
theorem dX11_off_20 : decode cX11_off 20 = .ok (.aload_n 0, 1) := by decide +kernel
theorem dX11_off_21 : decode cX11_off 21 = .ok (.getfield 69, 3) := by decide +kernel
theorem dX11_off_24 : decode cX11_off 24 = .ok (.iload_n 1, 1) := by decide +kernel
theorem dX11_off_25 : decode cX11_off 25 = .ok (.invokevirtual 290, 3) := by decide +kernel
theorem dX11_off_28 : decode cX11_off 28 = .ok (.istore_n 2, 1) := by decide +kernel
theorem dX11_off_29 : decode cX11_off 29 = .ok (.aload_n 0, 1) := by decide +kernel
theorem dX11_off_30 : decode cX11_off 30 = .ok (.getfield 78, 3) := by decide +kernel
theorem dX11_off_33 : decode cX11_off 33 = .ok (.iload_n 2, 1) := by decide +kernel
theorem dX11_off_34 : decode cX11_off 34 = .ok (.invokevirtual 293, 3) := by decide +kernel
theorem dX11_off_37 : decode cX11_off 37 = .ok (.aload_n 0, 1) := by decide +kernel
theorem dX11_off_38 : decode cX11_off 38 = .ok (.getfield 78, 3) := by decide +kernel
theorem dX11_off_41 : decode cX11_off 41 = .ok (.aload_n 0, 1) := by decide +kernel
theorem dX11_off_42 : decode cX11_off 42 = .ok (.getfield 69, 3) := by decide +kernel
theorem dX11_off_45 : decode cX11_off 45 = .ok (.invokevirtual 302, 3) := by decide +kernel
theorem dX11_off_48 : decode cX11_off 48 = .ok (.invokevirtual 293, 3) := by decide +kernel
theorem dX11_off_51 : decode cX11_off 51 = .ok (.aload_n 0, 1) := by decide +kernel
theorem dX11_off_52 : decode cX11_off 52 = .ok (.getfield 78, 3) := by decide +kernel
theorem dX11_off_55 : decode cX11_off 55 = .ok (.iload_n 1, 1) := by decide +kernel
theorem dX11_off_56 : decode cX11_off 56 = .ok (.iload_n 2, 1) := by decide +kernel
theorem dX11_off_57 : decode cX11_off 57 = .ok (.invokevirtual 303, 3) := by decide +kernel
theorem dX11_off_60 : decode cX11_off 60 = .ok (.ireturn, 1) := by decide +kernel
noncomputable def tX11_off_0 : qT (Int32 × qM) :=
  oLi 1 (oCi GX11_isMinute 1 (oEq (oC (.int (-2 : Int32)) (eI)) (oLa 0 (oGi 0 10 (oEq (oC (.int (-4 : Int32)) (eI)) (oLa 0 (oGf 0 7 74 (oLi 1 (oCi GX9_knownAt 2 (oSi 2 (oLa 0 (oGf 0 8 80 (oLi 2 (oCv GX1_makeReady 2 (oLa 0 (oGf 0 8 80 (oLa 0 (oGf 0 7 74 (oCi GX9_size 1 (oCv GX1_makeReady 2 (oLa 0 (oGf 0 8 80 (oLi 1 (oLi 2 (oCi GX1_offAt 3 (eI))))))))))))))))))))))))))
set_option maxRecDepth 20000 in
theorem sX11_off_0 {C : qCx} {w : qWp} (h : qOk C w RX11 cX11_off 3 6 155 155) (hm : qMt C (some .int)) (hx : qNx C) : qSnd C w 3 155 (qQf C w 155 155 jI) qfin 155 0 (tX11_off_0) :=
  cLi (pc := 0) h dX11_off_0 rfl (kCi (pc := 1) h (kd_X11_287 h dX11_off_1) spX11_isMinute (by decide) (by decide) (by decide) (by decide) (jNe (pc := 4) h dX11_off_4 rfl (cLa (pc := 10) h dX11_off_10 rfl (gGz (pc := 11) h dX11_off_11 ff_X11_91_0 (Nat.le_of_ble_eq_true rfl) (Nat.le_of_ble_eq_true rfl) (jNe (pc := 14) h dX11_off_14 rfl (cLa (pc := 20) h dX11_off_20 rfl (gGf (pc := 21) h dX11_off_21 ff_X11_69_0 (Nat.le_of_ble_eq_true rfl) (Nat.le_of_ble_eq_true rfl) rfl (cLi (pc := 24) h dX11_off_24 rfl (kCi (pc := 25) h (kd_X11_290 h dX11_off_25) spX9_knownAt (by decide) (by decide) (by decide) (by decide) (cSi (pc := 28) h dX11_off_28 rfl (cLa (pc := 29) h dX11_off_29 rfl (gGf (pc := 30) h dX11_off_30 ff_X11_78_0 (Nat.le_of_ble_eq_true rfl) (Nat.le_of_ble_eq_true rfl) rfl (cLi (pc := 33) h dX11_off_33 rfl (kCv (pc := 34) h (kd_X11_293 h dX11_off_34) spX1_makeReady (by decide) (by decide) (by decide) (by decide) (cLa (pc := 37) h dX11_off_37 rfl (gGf (pc := 38) h dX11_off_38 ff_X11_78_0 (Nat.le_of_ble_eq_true rfl) (Nat.le_of_ble_eq_true rfl) rfl (cLa (pc := 41) h dX11_off_41 rfl (gGf (pc := 42) h dX11_off_42 ff_X11_69_0 (Nat.le_of_ble_eq_true rfl) (Nat.le_of_ble_eq_true rfl) rfl (kCi (pc := 45) h (kd_X11_302 h dX11_off_45) spX9_size (by decide) (by decide) (by decide) (by decide) (kCv (pc := 48) h (kd_X11_293 h dX11_off_48) spX1_makeReady (by decide) (by decide) (by decide) (by decide) (cLa (pc := 51) h dX11_off_51 rfl (gGf (pc := 52) h dX11_off_52 ff_X11_78_0 (Nat.le_of_ble_eq_true rfl) (Nat.le_of_ble_eq_true rfl) rfl (cLi (pc := 55) h dX11_off_55 rfl (cLi (pc := 56) h dX11_off_56 rfl (kCi (pc := 57) h (kd_X11_303 h dX11_off_57) spX1_offAt (by decide) (by decide) (by decide) (by decide) (zI (pc := 60) h hm (Nat.le_refl _) dX11_off_60))))))))))))))))))))) (cB (pc := 17) h dX11_off_17 rfl (zI (pc := 19) h hm (Nat.le_refl _) dX11_off_19))))) (cB (pc := 7) h dX11_off_7 rfl (zI (pc := 9) h hm (Nat.le_refl _) dX11_off_9))))
set_option maxRecDepth 20000 in
theorem lX11_off_0 (a1 : Int32) (m : qM) : tX11_off_0 [some (.ref 0), some (.int a1), none] [] m = fX11_off_0 a1 m := rfl
noncomputable def GX11_off : qG Int32 := fun av m => match av with
  | [.ref 0, .int a1] => fX11_off a1 m
  | _ => none
theorem spX11_off : qSpI yX11_off (.code yX11_off cX11_off 3 (some .int)) 6 qfin 155 155 1 GX11_off := by
  intro av m x m' hG
  unfold GX11_off at hG
  split at hG
  · rename_i a1
    rw [fX11_off_d] at hG
    exact ⟨qmeet (J := jI) (r := (x, m')) (av := [.ref 0, .int a1]) (by decide +kernel) (Nat.le_of_ble_eq_true rfl) (fun C w h hm hx hn => sX11_off_0 h hm hx) ((lX11_off_0 _ _).trans hG) (Nat.le_of_ble_eq_true rfl), Or.inl ⟨0, _, 11, _, _, rfl, by decide, rfl, qCk_11, rfl⟩⟩
  · cases hG
theorem ml_X11_306 : Jvm.Cond.methodLink RX11 306 yX1_nextOf ∈ qTw := qm6 (List.mem_of_getElem? (i := 14) (by decide +kernel)) (by decide +kernel)
theorem kd_X11_306 {C : qCx} {w : qWp} {cc : ByteArray} {nL dp n0 n1 pc : Nat} (h : qOk C w RX11 cc nL dp n0 n1) (d : decode cc pc = .ok (.invokevirtual 306, 3)) : qCallOk C w nL dp n0 n1 pc 4 1 yX1_nextOf (.code yX1_nextOf cX1_nextOf 8 (some .int)) := kindV h d ml_X11_306 im_X1_nextOf se_X1_nextOf in_ParentEve_Evening co_X1_nextOf yk_X1_nextOf (by decide)
theorem dX11_next_0 : decode cX11_next 0 = .ok (.iload_n 1, 1) := by decide +kernel
theorem dX11_next_1 : decode cX11_next 1 = .ok (.invokestatic 170, 3) := by decide +kernel
theorem dX11_next_4 : decode cX11_next 4 = .ok (.ifCond .eq 10, 3) := by decide +kernel
theorem dX11_next_7 : decode cX11_next 7 = .ok (.iload_n 2, 1) := by decide +kernel
theorem dX11_next_8 : decode cX11_next 8 = .ok (.invokestatic 287, 3) := by decide +kernel
theorem dX11_next_11 : decode cX11_next 11 = .ok (.ifCond .ne 6, 3) := by decide +kernel
theorem dX11_next_14 : decode cX11_next 14 = .ok (.bipush (-2), 2) := by decide +kernel
theorem dX11_next_16 : decode cX11_next 16 = .ok (.ireturn, 1) := by decide +kernel
theorem dX11_next_17 : decode cX11_next 17 = .ok (.aload_n 0, 1) := by decide +kernel
theorem dX11_next_18 : decode cX11_next 18 = .ok (.getfield 91, 3) := by decide +kernel
theorem dX11_next_21 : decode cX11_next 21 = .ok (.ifCond .ne 6, 3) := by decide +kernel
theorem dX11_next_24 : decode cX11_next 24 = .ok (.bipush (-4), 2) := by decide +kernel
theorem dX11_next_26 : decode cX11_next 26 = .ok (.ireturn, 1) := by decide +kernel
theorem dX11_next_27 : decode cX11_next 27 = .ok (.aload_n 0, 1) := by decide +kernel
theorem dX11_next_28 : decode cX11_next 28 = .ok (.getfield 69, 3) := by decide +kernel
theorem dX11_next_31 : decode cX11_next 31 = .ok (.iload_n 2, 1) := by decide +kernel
theorem dX11_next_32 : decode cX11_next 32 = .ok (.invokevirtual 290, 3) := by decide +kernel
theorem dX11_next_35 : decode cX11_next 35 = .ok (.istore_n 3, 1) := by decide +kernel
theorem dX11_next_36 : decode cX11_next 36 = .ok (.aload_n 0, 1) := by decide +kernel
theorem dX11_next_37 : decode cX11_next 37 = .ok (.getfield 78, 3) := by decide +kernel
theorem dX11_next_40 : decode cX11_next 40 = .ok (.iload_n 3, 1) := by decide +kernel
theorem dX11_next_41 : decode cX11_next 41 = .ok (.invokevirtual 293, 3) := by decide +kernel
theorem dX11_next_44 : decode cX11_next 44 = .ok (.aload_n 0, 1) := by decide +kernel
theorem dX11_next_45 : decode cX11_next 45 = .ok (.getfield 78, 3) := by decide +kernel
theorem dX11_next_48 : decode cX11_next 48 = .ok (.iload_n 1, 1) := by decide +kernel
theorem dX11_next_49 : decode cX11_next 49 = .ok (.iload_n 2, 1) := by decide +kernel
theorem dX11_next_50 : decode cX11_next 50 = .ok (.iload_n 3, 1) := by decide +kernel
theorem dX11_next_51 : decode cX11_next 51 = .ok (.invokevirtual 306, 3) := by decide +kernel
theorem dX11_next_54 : decode cX11_next 54 = .ok (.ireturn, 1) := by decide +kernel
noncomputable def tX11_next_6 : qT (Int32 × qM) :=
  oC (.int (-2 : Int32)) (eI)
noncomputable def wX11_next_6 (k : qM → Option (Int32 × qM)) : qT (Int32 × qM) := fun lo st m => match lo, st with
  | [_, _, _, _], [] => k m
  | _, _ => none
set_option maxRecDepth 20000 in
theorem sX11_next_6 {C : qCx} {w : qWp} (h : qOk C w RX11 cX11_next 4 6 155 155) (hm : qMt C (some .int)) (hx : qNx C) : qSnd C w 4 155 (qQf C w 155 155 jI) qfin 155 14 (tX11_next_6) :=
  cB (pc := 14) h dX11_next_14 rfl (zI (pc := 16) h hm (Nat.le_refl _) dX11_next_16)
set_option maxRecDepth 20000 in
theorem lX11_next_6 (m : qM) : tX11_next_6 [none, none, none, none] [] m = fX11_next_6 m := rfl
theorem bX11_next_6 {C : qCx} {w : qWp} (h : qOk C w RX11 cX11_next 4 6 155 155) (hm : qMt C (some .int)) (hx : qNx C) : qSnd C w 4 155 (qQf C w 155 155 jI) qfin 155 14 (wX11_next_6 fX11_next_6) :=
  qSnd_of (fun lo st m x hr0 => by
    unfold wX11_next_6 at hr0
    split at hr0
    · exact ⟨_, (qsub_n (qsub_n (qsub_n (qsub_n qsub_nil)))), (lX11_next_6 _).trans hr0⟩
    · cases hr0) (sX11_next_6 h hm hx)
noncomputable def tX11_next_0 (j6 : qT (Int32 × qM)) : qT (Int32 × qM) :=
  oLi 1 (oCi GX11_isFamily 1 (oEq (j6) (oLi 2 (oCi GX11_isMinute 1 (oEq (j6) (oLa 0 (oGi 0 10 (oEq (oC (.int (-4 : Int32)) (eI)) (oLa 0 (oGf 0 7 74 (oLi 2 (oCi GX9_knownAt 2 (oSi 3 (oLa 0 (oGf 0 8 80 (oLi 3 (oCv GX1_makeReady 2 (oLa 0 (oGf 0 8 80 (oLi 1 (oLi 2 (oLi 3 (oCi GX1_nextOf 4 (eI))))))))))))))))))))))))
set_option maxRecDepth 20000 in
theorem sX11_next_0 {C : qCx} {w : qWp} (h : qOk C w RX11 cX11_next 4 6 155 155) (hm : qMt C (some .int)) (hx : qNx C) {j6 : qT (Int32 × qM)} (k6 : qSnd C w 4 155 (qQf C w 155 155 jI) qfin 155 14 j6) : qSnd C w 4 155 (qQf C w 155 155 jI) qfin 155 0 (tX11_next_0 j6) :=
  cLi (pc := 0) h dX11_next_0 rfl (kCi (pc := 1) h (kd_X11_170 h dX11_next_1) spX11_isFamily (by decide) (by decide) (by decide) (by decide) (jEq (pc := 4) h dX11_next_4 rfl (k6) (cLi (pc := 7) h dX11_next_7 rfl (kCi (pc := 8) h (kd_X11_287 h dX11_next_8) spX11_isMinute (by decide) (by decide) (by decide) (by decide) (jNe (pc := 11) h dX11_next_11 rfl (cLa (pc := 17) h dX11_next_17 rfl (gGz (pc := 18) h dX11_next_18 ff_X11_91_0 (Nat.le_of_ble_eq_true rfl) (Nat.le_of_ble_eq_true rfl) (jNe (pc := 21) h dX11_next_21 rfl (cLa (pc := 27) h dX11_next_27 rfl (gGf (pc := 28) h dX11_next_28 ff_X11_69_0 (Nat.le_of_ble_eq_true rfl) (Nat.le_of_ble_eq_true rfl) rfl (cLi (pc := 31) h dX11_next_31 rfl (kCi (pc := 32) h (kd_X11_290 h dX11_next_32) spX9_knownAt (by decide) (by decide) (by decide) (by decide) (cSi (pc := 35) h dX11_next_35 rfl (cLa (pc := 36) h dX11_next_36 rfl (gGf (pc := 37) h dX11_next_37 ff_X11_78_0 (Nat.le_of_ble_eq_true rfl) (Nat.le_of_ble_eq_true rfl) rfl (cLi (pc := 40) h dX11_next_40 rfl (kCv (pc := 41) h (kd_X11_293 h dX11_next_41) spX1_makeReady (by decide) (by decide) (by decide) (by decide) (cLa (pc := 44) h dX11_next_44 rfl (gGf (pc := 45) h dX11_next_45 ff_X11_78_0 (Nat.le_of_ble_eq_true rfl) (Nat.le_of_ble_eq_true rfl) rfl (cLi (pc := 48) h dX11_next_48 rfl (cLi (pc := 49) h dX11_next_49 rfl (cLi (pc := 50) h dX11_next_50 rfl (kCi (pc := 51) h (kd_X11_306 h dX11_next_51) spX1_nextOf (by decide) (by decide) (by decide) (by decide) (zI (pc := 54) h hm (Nat.le_refl _) dX11_next_54)))))))))))))))) (cB (pc := 24) h dX11_next_24 rfl (zI (pc := 26) h hm (Nat.le_refl _) dX11_next_26))))) (k6))))))
set_option maxRecDepth 20000 in
theorem lX11_next_0 (a1 : Int32) (a2 : Int32) (m : qM) : tX11_next_0 (wX11_next_6 fX11_next_6) [some (.ref 0), some (.int a1), some (.int a2), none] [] m = fX11_next_0 a1 a2 m := rfl
noncomputable def GX11_next : qG Int32 := fun av m => match av with
  | [.ref 0, .int a1, .int a2] => fX11_next a1 a2 m
  | _ => none
theorem spX11_next : qSpI yX11_next (.code yX11_next cX11_next 4 (some .int)) 6 qfin 155 155 1 GX11_next := by
  intro av m x m' hG
  unfold GX11_next at hG
  split at hG
  · rename_i a1 a2
    rw [fX11_next_d] at hG
    exact ⟨qmeet (J := jI) (r := (x, m')) (av := [.ref 0, .int a1, .int a2]) (by decide +kernel) (Nat.le_of_ble_eq_true rfl) (fun C w h hm hx hn => sX11_next_0 h hm hx (bX11_next_6 h hm hx)) ((lX11_next_0 _ _ _).trans hG) (Nat.le_of_ble_eq_true rfl), Or.inl ⟨0, _, 11, _, _, rfl, by decide, rfl, qCk_11, rfl⟩⟩
  · cases hG
theorem im_X1_messagesTo : Jvm.Cond.instanceMethod yX1_messagesTo ∈ qTw := qm6 (List.mem_of_getElem? (i := 27) (by decide +kernel)) (by decide +kernel)
theorem se_X1_messagesTo : Jvm.Cond.selects yX1_messagesTo.cls yX1_messagesTo yX1_messagesTo ∈ qTw := qm6 (List.mem_of_getElem? (i := 28) (by decide +kernel)) (by decide +kernel)
theorem co_X1_messagesTo : Jvm.Cond.code yX1_messagesTo cX1_messagesTo 5 (some .int) ∈ qTw := qm6 (List.mem_of_getElem? (i := 29) (by decide +kernel)) (by decide +kernel)
theorem yk_X1_messagesTo : qYk yX1_messagesTo 1 := ⟨⟨by decide +kernel, by decide +kernel⟩, by decide +kernel⟩
theorem ml_X11_313 : Jvm.Cond.methodLink RX11 313 yX1_messagesTo ∈ qTw := qm6 (List.mem_of_getElem? (i := 26) (by decide +kernel)) (by decide +kernel)
theorem kd_X11_313 {C : qCx} {w : qWp} {cc : ByteArray} {nL dp n0 n1 pc : Nat} (h : qOk C w RX11 cc nL dp n0 n1) (d : decode cc pc = .ok (.invokevirtual 313, 3)) : qCallOk C w nL dp n0 n1 pc 2 1 yX1_messagesTo (.code yX1_messagesTo cX1_messagesTo 5 (some .int)) := kindV h d ml_X11_313 im_X1_messagesTo se_X1_messagesTo in_ParentEve_Evening co_X1_messagesTo yk_X1_messagesTo (by decide)
theorem ml_X11_310 : Jvm.Cond.methodLink RX11 310 yX9_areAllOfTheirMinutes ∈ qTw := qm6 (List.mem_of_getElem? (i := 22) (by decide +kernel)) (by decide +kernel)
theorem kd_X11_310 {C : qCx} {w : qWp} {cc : ByteArray} {nL dp n0 n1 pc : Nat} (h : qOk C w RX11 cc nL dp n0 n1) (d : decode cc pc = .ok (.invokevirtual 310, 3)) : qCallOk C w nL dp n0 n1 pc 2 1 yX9_areAllOfTheirMinutes (.code yX9_areAllOfTheirMinutes cX9_areAllOfTheirMinutes 2 (some .boolean)) := kindV h d ml_X11_310 im_X9_areAllOfTheirMinutes se_X9_areAllOfTheirMinutes in_ParentEve_Tellings co_X9_areAllOfTheirMinutes yk_X9_areAllOfTheirMinutes (by decide)
theorem dX11_messages_0 : decode cX11_messages 0 = .ok (.iload_n 1, 1) := by decide +kernel
theorem dX11_messages_1 : decode cX11_messages 1 = .ok (.invokestatic 170, 3) := by decide +kernel
theorem dX11_messages_4 : decode cX11_messages 4 = .ok (.ifCond .ne 6, 3) := by decide +kernel
theorem dX11_messages_7 : decode cX11_messages 7 = .ok (.bipush (-2), 2) := by decide +kernel
theorem dX11_messages_9 : decode cX11_messages 9 = .ok (.ireturn, 1) := by decide +kernel
theorem dX11_messages_10 : decode cX11_messages 10 = .ok (.aload_n 0, 1) := by decide +kernel
theorem dX11_messages_11 : decode cX11_messages 11 = .ok (.getfield 91, 3) := by decide +kernel
theorem dX11_messages_14 : decode cX11_messages 14 = .ok (.ifCond .ne 6, 3) := by decide +kernel
theorem dX11_messages_17 : decode cX11_messages 17 = .ok (.bipush (-4), 2) := by decide +kernel
theorem dX11_messages_19 : decode cX11_messages 19 = .ok (.ireturn, 1) := by decide +kernel
theorem dX11_messages_20 : decode cX11_messages 20 = .ok (.iconst 0, 1) := by decide +kernel
theorem dX11_messages_21 : decode cX11_messages 21 = .ok (.istore_n 2, 1) := by decide +kernel
theorem dX11_messages_22 : decode cX11_messages 22 = .ok (.iload_n 2, 1) := by decide +kernel
theorem dX11_messages_23 : decode cX11_messages 23 = .ok (.aload_n 0, 1) := by decide +kernel
theorem dX11_messages_24 : decode cX11_messages 24 = .ok (.getfield 69, 3) := by decide +kernel
theorem dX11_messages_27 : decode cX11_messages 27 = .ok (.invokevirtual 302, 3) := by decide +kernel
theorem dX11_messages_30 : decode cX11_messages 30 = .ok (.if_icmp .gt 28, 3) := by decide +kernel
theorem dX11_messages_33 : decode cX11_messages 33 = .ok (.aload_n 0, 1) := by decide +kernel
theorem dX11_messages_34 : decode cX11_messages 34 = .ok (.getfield 69, 3) := by decide +kernel
theorem dX11_messages_37 : decode cX11_messages 37 = .ok (.iload_n 2, 1) := by decide +kernel
theorem dX11_messages_38 : decode cX11_messages 38 = .ok (.invokevirtual 310, 3) := by decide +kernel
theorem dX11_messages_41 : decode cX11_messages 41 = .ok (.ifCond .eq 11, 3) := by decide +kernel
theorem dX11_messages_44 : decode cX11_messages 44 = .ok (.aload_n 0, 1) := by decide +kernel
theorem dX11_messages_45 : decode cX11_messages 45 = .ok (.getfield 78, 3) := by decide +kernel
theorem dX11_messages_48 : decode cX11_messages 48 = .ok (.iload_n 2, 1) := by decide +kernel
theorem dX11_messages_49 : decode cX11_messages 49 = .ok (.invokevirtual 293, 3) := by decide +kernel
theorem dX11_messages_52 : decode cX11_messages 52 = .ok (.iinc 2 1, 3) := by decide +kernel
theorem dX11_messages_55 : decode cX11_messages 55 = .ok (.goto (-33), 3) := by decide +kernel
theorem dX11_messages_58 : decode cX11_messages 58 = .ok (.aload_n 0, 1) := by decide +kernel
theorem dX11_messages_59 : decode cX11_messages 59 = .ok (.getfield 78, 3) := by decide +kernel
theorem dX11_messages_62 : decode cX11_messages 62 = .ok (.iload_n 1, 1) := by decide +kernel
theorem dX11_messages_63 : decode cX11_messages 63 = .ok (.invokevirtual 313, 3) := by decide +kernel
theorem dX11_messages_66 : decode cX11_messages 66 = .ok (.ireturn, 1) := by decide +kernel
noncomputable def tX11_messages_26 (j12 : qT (Int32 × qM)) : qT (Int32 × qM) :=
  oInc 2 (1 : Int32) (j12)
noncomputable def wX11_messages_26 (k : Int32 → Int32 → qM → Option (Int32 × qM)) : qT (Int32 × qM) := fun lo st m => match lo, st with
  | [some (.ref 0), some (.int a1), some (.int a2)], [] => k a1 a2 m
  | _, _ => none
noncomputable def wX11_messages_12 (k : Int32 → Int32 → qM → Option (Int32 × qM)) : qT (Int32 × qM) := fun lo st m => match lo, st with
  | [some (.ref 0), some (.int a1), some (.int a2)], [] => k a1 a2 m
  | _, _ => none
set_option maxRecDepth 20000 in
theorem sX11_messages_26 {C : qCx} {w : qWp} (h : qOk C w RX11 cX11_messages 3 6 155 155) (hm : qMt C (some .int)) (hx : qNx C) {j12 : qT (Int32 × qM)} (k12 : qSnd C w 3 155 (qQf C w 155 155 jI) qfin 155 22 j12) : qSnd C w 3 155 (qQf C w 155 155 jI) qfin 155 52 (tX11_messages_26 j12) :=
  cInc (pc := 52) h dX11_messages_52 rfl (jGo (pc := 55) h dX11_messages_55 rfl (k12))
set_option maxRecDepth 20000 in
theorem lX11_messages_26 (k12 : Int32 → Int32 → qM → Option (Int32 × qM)) (a1 : Int32) (a2 : Int32) (m : qM) : tX11_messages_26 (wX11_messages_12 k12) [some (.ref 0), some (.int a1), some (.int a2)] [] m = fX11_messages_26 k12 a1 a2 m := rfl
theorem bX11_messages_26 {C : qCx} {w : qWp} (h : qOk C w RX11 cX11_messages 3 6 155 155) (hm : qMt C (some .int)) (hx : qNx C) {k12 : Int32 → Int32 → qM → Option (Int32 × qM)} (h12 : qSnd C w 3 155 (qQf C w 155 155 jI) qfin 155 22 (wX11_messages_12 k12)) : qSnd C w 3 155 (qQf C w 155 155 jI) qfin 155 52 (wX11_messages_26 (fX11_messages_26 k12)) :=
  qSnd_of (fun lo st m x hr0 => by
    unfold wX11_messages_26 at hr0
    split at hr0
    · exact ⟨_, (qsub_e (qsub_e (qsub_e qsub_nil))), (lX11_messages_26 _ _ _ _).trans hr0⟩
    · cases hr0) (sX11_messages_26 h hm hx h12)
noncomputable def tX11_messages_12 (j26 : qT (Int32 × qM)) : qT (Int32 × qM) :=
  oLi 2 (oLa 0 (oGf 0 7 74 (oCi GX9_size 1 (oCGt (oLa 0 (oGf 0 8 80 (oLi 1 (oCi GX1_messagesTo 2 (eI))))) (oLa 0 (oGf 0 7 74 (oLi 2 (oCi GX9_areAllOfTheirMinutes 2 (oEq (j26) (oLa 0 (oGf 0 8 80 (oLi 2 (oCv GX1_makeReady 2 (j26))))))))))))))
set_option maxRecDepth 20000 in
theorem sX11_messages_12 {C : qCx} {w : qWp} (h : qOk C w RX11 cX11_messages 3 6 155 155) (hm : qMt C (some .int)) (hx : qNx C) {j26 : qT (Int32 × qM)} (k26 : qSnd C w 3 155 (qQf C w 155 155 jI) qfin 155 52 j26) : qSnd C w 3 155 (qQf C w 155 155 jI) qfin 155 22 (tX11_messages_12 j26) :=
  cLi (pc := 22) h dX11_messages_22 rfl (cLa (pc := 23) h dX11_messages_23 rfl (gGf (pc := 24) h dX11_messages_24 ff_X11_69_0 (Nat.le_of_ble_eq_true rfl) (Nat.le_of_ble_eq_true rfl) rfl (kCi (pc := 27) h (kd_X11_302 h dX11_messages_27) spX9_size (by decide) (by decide) (by decide) (by decide) (jCGt (pc := 30) h dX11_messages_30 rfl (cLa (pc := 58) h dX11_messages_58 rfl (gGf (pc := 59) h dX11_messages_59 ff_X11_78_0 (Nat.le_of_ble_eq_true rfl) (Nat.le_of_ble_eq_true rfl) rfl (cLi (pc := 62) h dX11_messages_62 rfl (kCi (pc := 63) h (kd_X11_313 h dX11_messages_63) spX1_messagesTo (by decide) (by decide) (by decide) (by decide) (zI (pc := 66) h hm (Nat.le_refl _) dX11_messages_66))))) (cLa (pc := 33) h dX11_messages_33 rfl (gGf (pc := 34) h dX11_messages_34 ff_X11_69_0 (Nat.le_of_ble_eq_true rfl) (Nat.le_of_ble_eq_true rfl) rfl (cLi (pc := 37) h dX11_messages_37 rfl (kCi (pc := 38) h (kd_X11_310 h dX11_messages_38) spX9_areAllOfTheirMinutes (by decide) (by decide) (by decide) (by decide) (jEq (pc := 41) h dX11_messages_41 rfl (k26) (cLa (pc := 44) h dX11_messages_44 rfl (gGf (pc := 45) h dX11_messages_45 ff_X11_78_0 (Nat.le_of_ble_eq_true rfl) (Nat.le_of_ble_eq_true rfl) rfl (cLi (pc := 48) h dX11_messages_48 rfl (kCv (pc := 49) h (kd_X11_293 h dX11_messages_49) spX1_makeReady (by decide) (by decide) (by decide) (by decide) (k26))))))))))))))
set_option maxRecDepth 20000 in
theorem lX11_messages_12 (n : Nat) (a1 : Int32) (a2 : Int32) (m : qM) : tX11_messages_12 (wX11_messages_26 (fX11_messages_26 (fX11_messages_12 n))) [some (.ref 0), some (.int a1), some (.int a2)] [] m = fX11_messages_12 (n + 1) a1 a2 m := rfl
theorem bX11_messages_12 {C : qCx} {w : qWp} (h : qOk C w RX11 cX11_messages 3 6 155 155) (hm : qMt C (some .int)) (hx : qNx C) : ∀ n : Nat, qSnd C w 3 155 (qQf C w 155 155 jI) qfin 155 22 (wX11_messages_12 (fX11_messages_12 n))
  | 0 => qSnd_of0 (fun lo st m x hr0 => by
    unfold wX11_messages_12 at hr0
    split at hr0
    · cases hr0
    · cases hr0)
  | n + 1 => by
    have ih := bX11_messages_12 h hm hx n
    exact qSnd_of (fun lo st m x hr0 => by
    unfold wX11_messages_12 at hr0
    split at hr0
    · exact ⟨_, (qsub_e (qsub_e (qsub_e qsub_nil))), (lX11_messages_12 n _ _ _).trans hr0⟩
    · cases hr0) (sX11_messages_12 h hm hx (bX11_messages_26 h hm hx ih))
noncomputable def tX11_messages_0 (j12 : qT (Int32 × qM)) : qT (Int32 × qM) :=
  oLi 1 (oCi GX11_isFamily 1 (oEq (oC (.int (-2 : Int32)) (eI)) (oLa 0 (oGi 0 10 (oEq (oC (.int (-4 : Int32)) (eI)) (oC (.int (0 : Int32)) (oSi 2 (j12))))))))
set_option maxRecDepth 20000 in
theorem sX11_messages_0 {C : qCx} {w : qWp} (h : qOk C w RX11 cX11_messages 3 6 155 155) (hm : qMt C (some .int)) (hx : qNx C) {j12 : qT (Int32 × qM)} (k12 : qSnd C w 3 155 (qQf C w 155 155 jI) qfin 155 22 j12) : qSnd C w 3 155 (qQf C w 155 155 jI) qfin 155 0 (tX11_messages_0 j12) :=
  cLi (pc := 0) h dX11_messages_0 rfl (kCi (pc := 1) h (kd_X11_170 h dX11_messages_1) spX11_isFamily (by decide) (by decide) (by decide) (by decide) (jNe (pc := 4) h dX11_messages_4 rfl (cLa (pc := 10) h dX11_messages_10 rfl (gGz (pc := 11) h dX11_messages_11 ff_X11_91_0 (Nat.le_of_ble_eq_true rfl) (Nat.le_of_ble_eq_true rfl) (jNe (pc := 14) h dX11_messages_14 rfl (cC (pc := 20) h dX11_messages_20 rfl (cSi (pc := 21) h dX11_messages_21 rfl (k12))) (cB (pc := 17) h dX11_messages_17 rfl (zI (pc := 19) h hm (Nat.le_refl _) dX11_messages_19))))) (cB (pc := 7) h dX11_messages_7 rfl (zI (pc := 9) h hm (Nat.le_refl _) dX11_messages_9))))
set_option maxRecDepth 20000 in
theorem lX11_messages_0 (a1 : Int32) (m : qM) : tX11_messages_0 (wX11_messages_12 (fX11_messages_12 FU)) [some (.ref 0), some (.int a1), none] [] m = fX11_messages_0 a1 m := rfl
noncomputable def GX11_messages : qG Int32 := fun av m => match av with
  | [.ref 0, .int a1] => fX11_messages a1 m
  | _ => none
theorem spX11_messages : qSpI yX11_messages (.code yX11_messages cX11_messages 3 (some .int)) 6 qfin 155 155 1 GX11_messages := by
  intro av m x m' hG
  unfold GX11_messages at hG
  split at hG
  · rename_i a1
    rw [fX11_messages_d] at hG
    exact ⟨qmeet (J := jI) (r := (x, m')) (av := [.ref 0, .int a1]) (by decide +kernel) (Nat.le_of_ble_eq_true rfl) (fun C w h hm hx hn => sX11_messages_0 h hm hx (bX11_messages_12 h hm hx FU)) ((lX11_messages_0 _ _).trans hG) (Nat.le_of_ble_eq_true rfl), Or.inl ⟨0, _, 11, _, _, rfl, by decide, rfl, qCk_11, rfl⟩⟩
  · cases hG
theorem im_X1_missed : Jvm.Cond.instanceMethod yX1_missed ∈ qTw := qm6 (List.mem_of_getElem? (i := 42) (by decide +kernel)) (by decide +kernel)
theorem se_X1_missed : Jvm.Cond.selects yX1_missed.cls yX1_missed yX1_missed ∈ qTw := qm6 (List.mem_of_getElem? (i := 43) (by decide +kernel)) (by decide +kernel)
theorem co_X1_missed : Jvm.Cond.code yX1_missed cX1_missed 4 (some .int) ∈ qTw := qm6 (List.mem_of_getElem? (i := 44) (by decide +kernel)) (by decide +kernel)
theorem yk_X1_missed : qYk yX1_missed 1 := ⟨⟨by decide +kernel, by decide +kernel⟩, by decide +kernel⟩
theorem ml_X11_316 : Jvm.Cond.methodLink RX11 316 yX1_missed ∈ qTw := qm6 (List.mem_of_getElem? (i := 41) (by decide +kernel)) (by decide +kernel)
theorem kd_X11_316 {C : qCx} {w : qWp} {cc : ByteArray} {nL dp n0 n1 pc : Nat} (h : qOk C w RX11 cc nL dp n0 n1) (d : decode cc pc = .ok (.invokevirtual 316, 3)) : qCallOk C w nL dp n0 n1 pc 2 1 yX1_missed (.code yX1_missed cX1_missed 4 (some .int)) := kindV h d ml_X11_316 im_X1_missed se_X1_missed in_ParentEve_Evening co_X1_missed yk_X1_missed (by decide)
theorem im_X7_slotsNotAheadOf : Jvm.Cond.instanceMethod yX7_slotsNotAheadOf ∈ qTw := qm6 (List.mem_of_getElem? (i := 46) (by decide +kernel)) (by decide +kernel)
theorem se_X7_slotsNotAheadOf : Jvm.Cond.selects yX7_slotsNotAheadOf.cls yX7_slotsNotAheadOf yX7_slotsNotAheadOf ∈ qTw := qm6 (List.mem_of_getElem? (i := 47) (by decide +kernel)) (by decide +kernel)
theorem co_X7_slotsNotAheadOf : Jvm.Cond.code yX7_slotsNotAheadOf cX7_slotsNotAheadOf 3 (some .int) ∈ qTw := qm6 (List.mem_of_getElem? (i := 48) (by decide +kernel)) (by decide +kernel)
theorem yk_X7_slotsNotAheadOf : qYk yX7_slotsNotAheadOf 1 := ⟨⟨by decide +kernel, by decide +kernel⟩, by decide +kernel⟩
theorem ml_X11_319 : Jvm.Cond.methodLink RX11 319 yX7_slotsNotAheadOf ∈ qTw := qm6 (List.mem_of_getElem? (i := 45) (by decide +kernel)) (by decide +kernel)
theorem kd_X11_319 {C : qCx} {w : qWp} {cc : ByteArray} {nL dp n0 n1 pc : Nat} (h : qOk C w RX11 cc nL dp n0 n1) (d : decode cc pc = .ok (.invokevirtual 319, 3)) : qCallOk C w nL dp n0 n1 pc 2 1 yX7_slotsNotAheadOf (.code yX7_slotsNotAheadOf cX7_slotsNotAheadOf 3 (some .int)) := kindV h d ml_X11_319 im_X7_slotsNotAheadOf se_X7_slotsNotAheadOf in_ParentEve_Rules co_X7_slotsNotAheadOf yk_X7_slotsNotAheadOf (by decide)
theorem im_X0_layPickedAnew : Jvm.Cond.instanceMethod yX0_layPickedAnew ∈ qTw := qm6 (List.mem_of_getElem? (i := 52) (by decide +kernel)) (by decide +kernel)
theorem se_X0_layPickedAnew : Jvm.Cond.selects yX0_layPickedAnew.cls yX0_layPickedAnew yX0_layPickedAnew ∈ qTw := qm6 (List.mem_of_getElem? (i := 53) (by decide +kernel)) (by decide +kernel)
theorem co_X0_layPickedAnew : Jvm.Cond.code yX0_layPickedAnew cX0_layPickedAnew 4 (some .int) ∈ qTw := qm6 (List.mem_of_getElem? (i := 54) (by decide +kernel)) (by decide +kernel)
theorem yk_X0_layPickedAnew : qYk yX0_layPickedAnew 1 := ⟨⟨by decide +kernel, by decide +kernel⟩, by decide +kernel⟩
theorem ml_X11_322 : Jvm.Cond.methodLink RX11 322 yX0_layPickedAnew ∈ qTw := qm6 (List.mem_of_getElem? (i := 51) (by decide +kernel)) (by decide +kernel)
theorem kd_X11_322 {C : qCx} {w : qWp} {cc : ByteArray} {nL dp n0 n1 pc : Nat} (h : qOk C w RX11 cc nL dp n0 n1) (d : decode cc pc = .ok (.invokevirtual 322, 3)) : qCallOk C w nL dp n0 n1 pc 2 1 yX0_layPickedAnew (.code yX0_layPickedAnew cX0_layPickedAnew 4 (some .int)) := kindV h d ml_X11_322 im_X0_layPickedAnew se_X0_layPickedAnew in_ParentEve_Chooser co_X0_layPickedAnew yk_X0_layPickedAnew (by decide)
theorem dX11_mend_0 : decode cX11_mend 0 = .ok (.iload_n 1, 1) := by decide +kernel
theorem dX11_mend_1 : decode cX11_mend 1 = .ok (.invokestatic 287, 3) := by decide +kernel
theorem dX11_mend_4 : decode cX11_mend 4 = .ok (.ifCond .ne 6, 3) := by decide +kernel
theorem dX11_mend_7 : decode cX11_mend 7 = .ok (.bipush (-2), 2) := by decide +kernel
theorem dX11_mend_9 : decode cX11_mend 9 = .ok (.ireturn, 1) := by decide +kernel
theorem dX11_mend_10 : decode cX11_mend 10 = .ok (.aload_n 0, 1) := by decide +kernel
theorem dX11_mend_11 : decode cX11_mend 11 = .ok (.getfield 91, 3) := by decide +kernel
theorem dX11_mend_14 : decode cX11_mend 14 = .ok (.ifCond .ne 6, 3) := by decide +kernel
theorem dX11_mend_17 : decode cX11_mend 17 = .ok (.bipush (-4), 2) := by decide +kernel
theorem dX11_mend_19 : decode cX11_mend 19 = .ok (.ireturn, 1) := by decide +kernel
theorem dX11_mend_20 : decode cX11_mend 20 = .ok (.aload_n 0, 1) := by decide +kernel
theorem dX11_mend_21 : decode cX11_mend 21 = .ok (.getfield 69, 3) := by decide +kernel
theorem dX11_mend_24 : decode cX11_mend 24 = .ok (.iload_n 1, 1) := by decide +kernel
theorem dX11_mend_25 : decode cX11_mend 25 = .ok (.invokevirtual 290, 3) := by decide +kernel
theorem dX11_mend_28 : decode cX11_mend 28 = .ok (.istore_n 2, 1) := by decide +kernel
theorem dX11_mend_29 : decode cX11_mend 29 = .ok (.aload_n 0, 1) := by decide +kernel
theorem dX11_mend_30 : decode cX11_mend 30 = .ok (.getfield 78, 3) := by decide +kernel
theorem dX11_mend_33 : decode cX11_mend 33 = .ok (.iload_n 2, 1) := by decide +kernel
theorem dX11_mend_34 : decode cX11_mend 34 = .ok (.invokevirtual 293, 3) := by decide +kernel
theorem dX11_mend_37 : decode cX11_mend 37 = .ok (.aload_n 0, 1) := by decide +kernel
theorem dX11_mend_38 : decode cX11_mend 38 = .ok (.getfield 78, 3) := by decide +kernel
theorem dX11_mend_41 : decode cX11_mend 41 = .ok (.iload_n 2, 1) := by decide +kernel
theorem dX11_mend_42 : decode cX11_mend 42 = .ok (.invokevirtual 316, 3) := by decide +kernel
theorem dX11_mend_45 : decode cX11_mend 45 = .ok (.iconst 4, 1) := by decide +kernel
theorem dX11_mend_46 : decode cX11_mend 46 = .ok (.if_icmp .le 6, 3) := by decide +kernel
theorem dX11_mend_49 : decode cX11_mend 49 = .ok (.bipush (-3), 2) := by decide +kernel
theorem dX11_mend_51 : decode cX11_mend 51 = .ok (.ireturn, 1) := by decide +kernel
theorem dX11_mend_52 : decode cX11_mend 52 = .ok (.aload_n 0, 1) := by decide +kernel
theorem dX11_mend_53 : decode cX11_mend 53 = .ok (.getfield 62, 3) := by decide +kernel
theorem dX11_mend_56 : decode cX11_mend 56 = .ok (.invokevirtual 228, 3) := by decide +kernel
theorem dX11_mend_59 : decode cX11_mend 59 = .ok (.iconst 0, 1) := by decide +kernel
theorem dX11_mend_60 : decode cX11_mend 60 = .ok (.istore_n 3, 1) := by decide +kernel
theorem dX11_mend_61 : decode cX11_mend 61 = .ok (.iload_n 3, 1) := by decide +kernel
theorem dX11_mend_62 : decode cX11_mend 62 = .ok (.aload_n 0, 1) := by decide +kernel
theorem dX11_mend_63 : decode cX11_mend 63 = .ok (.getfield 53, 3) := by decide +kernel
theorem dX11_mend_66 : decode cX11_mend 66 = .ok (.invokevirtual 189, 3) := by decide +kernel
theorem dX11_mend_69 : decode cX11_mend 69 = .ok (.if_icmp .ge 41, 3) := by decide +kernel
theorem dX11_mend_72 : decode cX11_mend 72 = .ok (.aload_n 0, 1) := by decide +kernel
theorem dX11_mend_73 : decode cX11_mend 73 = .ok (.getfield 53, 3) := by decide +kernel
theorem dX11_mend_76 : decode cX11_mend 76 = .ok (.iload_n 3, 1) := by decide +kernel
theorem dX11_mend_77 : decode cX11_mend 77 = .ok (.invokevirtual 199, 3) := by decide +kernel
theorem dX11_mend_80 : decode cX11_mend 80 = .ok (.ifCond .eq 24, 3) := by decide +kernel
theorem dX11_mend_83 : decode cX11_mend 83 = .ok (.aload_n 0, 1) := by decide +kernel
theorem dX11_mend_84 : decode cX11_mend 84 = .ok (.getfield 78, 3) := by decide +kernel
theorem dX11_mend_87 : decode cX11_mend 87 = .ok (.iload_n 3, 1) := by decide +kernel
theorem dX11_mend_88 : decode cX11_mend 88 = .ok (.iload_n 2, 1) := by decide +kernel
theorem dX11_mend_89 : decode cX11_mend 89 = .ok (.invokevirtual 296, 3) := by decide +kernel
theorem dX11_mend_92 : decode cX11_mend 92 = .ok (.iconst (-1), 1) := by decide +kernel
theorem dX11_mend_93 : decode cX11_mend 93 = .ok (.if_icmp .ne 11, 3) := by decide +kernel
theorem dX11_mend_96 : decode cX11_mend 96 = .ok (.aload_n 0, 1) := by decide +kernel
theorem dX11_mend_97 : decode cX11_mend 97 = .ok (.getfield 62, 3) := by decide +kernel
theorem dX11_mend_100 : decode cX11_mend 100 = .ok (.iload_n 3, 1) := by decide +kernel
theorem dX11_mend_101 : decode cX11_mend 101 = .ok (.invokevirtual 231, 3) := by decide +kernel
theorem dX11_mend_104 : decode cX11_mend 104 = .ok (.iinc 3 1, 3) := by decide +kernel
theorem dX11_mend_107 : decode cX11_mend 107 = .ok (.goto (-46), 3) := by decide +kernel
theorem dX11_mend_110 : decode cX11_mend 110 = .ok (.aload_n 0, 1) := by decide +kernel
theorem dX11_mend_111 : decode cX11_mend 111 = .ok (.getfield 78, 3) := by decide +kernel
theorem dX11_mend_114 : decode cX11_mend 114 = .ok (.invokevirtual 143, 3) := by decide +kernel
theorem dX11_mend_117 : decode cX11_mend 117 = .ok (.aload_n 0, 1) := by decide +kernel
theorem dX11_mend_118 : decode cX11_mend 118 = .ok (.getfield 62, 3) := by decide +kernel
theorem dX11_mend_121 : decode cX11_mend 121 = .ok (.aload_n 0, 1) := by decide +kernel
theorem dX11_mend_122 : decode cX11_mend 122 = .ok (.getfield 28, 3) := by decide +kernel
theorem dX11_mend_125 : decode cX11_mend 125 = .ok (.iload_n 1, 1) := by decide +kernel
theorem dX11_mend_126 : decode cX11_mend 126 = .ok (.invokevirtual 319, 3) := by decide +kernel
theorem dX11_mend_129 : decode cX11_mend 129 = .ok (.invokevirtual 322, 3) := by decide +kernel
theorem dX11_mend_132 : decode cX11_mend 132 = .ok (.ireturn, 1) := by decide +kernel
noncomputable def tX11_mend_53 (j32 : qT (Int32 × qM)) : qT (Int32 × qM) :=
  oInc 3 (1 : Int32) (j32)
noncomputable def wX11_mend_53 (k : Int32 → Int32 → Int32 → qM → Option (Int32 × qM)) : qT (Int32 × qM) := fun lo st m => match lo, st with
  | [some (.ref 0), some (.int a1), some (.int a2), some (.int a3)], [] => k a1 a2 a3 m
  | _, _ => none
noncomputable def wX11_mend_32 (k : Int32 → Int32 → Int32 → qM → Option (Int32 × qM)) : qT (Int32 × qM) := fun lo st m => match lo, st with
  | [some (.ref 0), some (.int a1), some (.int a2), some (.int a3)], [] => k a1 a2 a3 m
  | _, _ => none
set_option maxRecDepth 20000 in
theorem sX11_mend_53 {C : qCx} {w : qWp} (h : qOk C w RX11 cX11_mend 4 15 155 155) (hm : qMt C (some .int)) (hx : qNx C) {j32 : qT (Int32 × qM)} (k32 : qSnd C w 4 155 (qQf C w 155 155 jI) qfin 155 61 j32) : qSnd C w 4 155 (qQf C w 155 155 jI) qfin 155 104 (tX11_mend_53 j32) :=
  cInc (pc := 104) h dX11_mend_104 rfl (jGo (pc := 107) h dX11_mend_107 rfl (k32))
set_option maxRecDepth 20000 in
theorem lX11_mend_53 (k32 : Int32 → Int32 → Int32 → qM → Option (Int32 × qM)) (a1 : Int32) (a2 : Int32) (a3 : Int32) (m : qM) : tX11_mend_53 (wX11_mend_32 k32) [some (.ref 0), some (.int a1), some (.int a2), some (.int a3)] [] m = fX11_mend_53 k32 a1 a2 a3 m := rfl
theorem bX11_mend_53 {C : qCx} {w : qWp} (h : qOk C w RX11 cX11_mend 4 15 155 155) (hm : qMt C (some .int)) (hx : qNx C) {k32 : Int32 → Int32 → Int32 → qM → Option (Int32 × qM)} (h32 : qSnd C w 4 155 (qQf C w 155 155 jI) qfin 155 61 (wX11_mend_32 k32)) : qSnd C w 4 155 (qQf C w 155 155 jI) qfin 155 104 (wX11_mend_53 (fX11_mend_53 k32)) :=
  qSnd_of (fun lo st m x hr0 => by
    unfold wX11_mend_53 at hr0
    split at hr0
    · exact ⟨_, (qsub_e (qsub_e (qsub_e (qsub_e qsub_nil)))), (lX11_mend_53 _ _ _ _ _).trans hr0⟩
    · cases hr0) (sX11_mend_53 h hm hx h32)
noncomputable def tX11_mend_32 (j53 : qT (Int32 × qM)) : qT (Int32 × qM) :=
  oLi 3 (oLa 0 (oGf 0 5 58 (oCi GX4_asks 1 (oCGe (oLa 0 (oGf 0 8 80 (oCv GX1_forget 1 (oLa 0 (oGf 0 6 68 (oLa 0 (oGf 0 2 4 (oLi 1 (oCi GX7_slotsNotAheadOf 2 (oCi GX0_layPickedAnew 2 (eI))))))))))) (oLa 0 (oGf 0 5 58 (oLi 3 (oCi GX4_isLaid 2 (oEq (j53) (oLa 0 (oGf 0 8 80 (oLi 3 (oLi 2 (oCi GX1_startOf 3 (oC (.int (-1 : Int32)) (oCEq (oLa 0 (oGf 0 6 68 (oLi 3 (oCv GX0_pick 2 (j53))))) (j53)))))))))))))))))
set_option maxRecDepth 20000 in
theorem sX11_mend_32 {C : qCx} {w : qWp} (h : qOk C w RX11 cX11_mend 4 15 155 155) (hm : qMt C (some .int)) (hx : qNx C) {j53 : qT (Int32 × qM)} (k53 : qSnd C w 4 155 (qQf C w 155 155 jI) qfin 155 104 j53) : qSnd C w 4 155 (qQf C w 155 155 jI) qfin 155 61 (tX11_mend_32 j53) :=
  cLi (pc := 61) h dX11_mend_61 rfl (cLa (pc := 62) h dX11_mend_62 rfl (gGf (pc := 63) h dX11_mend_63 ff_X11_53_0 (Nat.le_of_ble_eq_true rfl) (Nat.le_of_ble_eq_true rfl) rfl (kCi (pc := 66) h (kd_X11_189 h dX11_mend_66) spX4_asks (by decide) (by decide) (by decide) (by decide) (jCGe (pc := 69) h dX11_mend_69 rfl (cLa (pc := 110) h dX11_mend_110 rfl (gGf (pc := 111) h dX11_mend_111 ff_X11_78_0 (Nat.le_of_ble_eq_true rfl) (Nat.le_of_ble_eq_true rfl) rfl (kCv (pc := 114) h (kd_X11_143 h dX11_mend_114) spX1_forget (by decide) (by decide) (by decide) (by decide) (cLa (pc := 117) h dX11_mend_117 rfl (gGf (pc := 118) h dX11_mend_118 ff_X11_62_0 (Nat.le_of_ble_eq_true rfl) (Nat.le_of_ble_eq_true rfl) rfl (cLa (pc := 121) h dX11_mend_121 rfl (gGf (pc := 122) h dX11_mend_122 ff_X11_28_0 (Nat.le_of_ble_eq_true rfl) (Nat.le_of_ble_eq_true rfl) rfl (cLi (pc := 125) h dX11_mend_125 rfl (kCi (pc := 126) h (kd_X11_319 h dX11_mend_126) spX7_slotsNotAheadOf (by decide) (by decide) (by decide) (by decide) (kCi (pc := 129) h (kd_X11_322 h dX11_mend_129) spX0_layPickedAnew (by decide) (by decide) (by decide) (by decide) (zI (pc := 132) h hm (Nat.le_refl _) dX11_mend_132))))))))))) (cLa (pc := 72) h dX11_mend_72 rfl (gGf (pc := 73) h dX11_mend_73 ff_X11_53_0 (Nat.le_of_ble_eq_true rfl) (Nat.le_of_ble_eq_true rfl) rfl (cLi (pc := 76) h dX11_mend_76 rfl (kCi (pc := 77) h (kd_X11_199 h dX11_mend_77) spX4_isLaid (by decide) (by decide) (by decide) (by decide) (jEq (pc := 80) h dX11_mend_80 rfl (k53) (cLa (pc := 83) h dX11_mend_83 rfl (gGf (pc := 84) h dX11_mend_84 ff_X11_78_0 (Nat.le_of_ble_eq_true rfl) (Nat.le_of_ble_eq_true rfl) rfl (cLi (pc := 87) h dX11_mend_87 rfl (cLi (pc := 88) h dX11_mend_88 rfl (kCi (pc := 89) h (kd_X11_296 h dX11_mend_89) spX1_startOf (by decide) (by decide) (by decide) (by decide) (cC (pc := 92) h dX11_mend_92 rfl (jCNe (pc := 93) h dX11_mend_93 rfl (k53) (cLa (pc := 96) h dX11_mend_96 rfl (gGf (pc := 97) h dX11_mend_97 ff_X11_62_0 (Nat.le_of_ble_eq_true rfl) (Nat.le_of_ble_eq_true rfl) rfl (cLi (pc := 100) h dX11_mend_100 rfl (kCv (pc := 101) h (kd_X11_231 h dX11_mend_101) spX0_pick (by decide) (by decide) (by decide) (by decide) (k53)))))))))))))))))))))
set_option maxRecDepth 20000 in
theorem lX11_mend_32 (n : Nat) (a1 : Int32) (a2 : Int32) (a3 : Int32) (m : qM) : tX11_mend_32 (wX11_mend_53 (fX11_mend_53 (fX11_mend_32 n))) [some (.ref 0), some (.int a1), some (.int a2), some (.int a3)] [] m = fX11_mend_32 (n + 1) a1 a2 a3 m := rfl
theorem bX11_mend_32 {C : qCx} {w : qWp} (h : qOk C w RX11 cX11_mend 4 15 155 155) (hm : qMt C (some .int)) (hx : qNx C) : ∀ n : Nat, qSnd C w 4 155 (qQf C w 155 155 jI) qfin 155 61 (wX11_mend_32 (fX11_mend_32 n))
  | 0 => qSnd_of0 (fun lo st m x hr0 => by
    unfold wX11_mend_32 at hr0
    split at hr0
    · cases hr0
    · cases hr0)
  | n + 1 => by
    have ih := bX11_mend_32 h hm hx n
    exact qSnd_of (fun lo st m x hr0 => by
    unfold wX11_mend_32 at hr0
    split at hr0
    · exact ⟨_, (qsub_e (qsub_e (qsub_e (qsub_e qsub_nil)))), (lX11_mend_32 n _ _ _ _).trans hr0⟩
    · cases hr0) (sX11_mend_32 h hm hx (bX11_mend_53 h hm hx ih))
noncomputable def tX11_mend_0 (j32 : qT (Int32 × qM)) : qT (Int32 × qM) :=
  oLi 1 (oCi GX11_isMinute 1 (oEq (oC (.int (-2 : Int32)) (eI)) (oLa 0 (oGi 0 10 (oEq (oC (.int (-4 : Int32)) (eI)) (oLa 0 (oGf 0 7 74 (oLi 1 (oCi GX9_knownAt 2 (oSi 2 (oLa 0 (oGf 0 8 80 (oLi 2 (oCv GX1_makeReady 2 (oLa 0 (oGf 0 8 80 (oLi 2 (oCi GX1_missed 2 (oC (.int (4 : Int32)) (oCLe (oLa 0 (oGf 0 6 68 (oCv GX0_clear 1 (oC (.int (0 : Int32)) (oSi 3 (j32)))))) (oC (.int (-3 : Int32)) (eI))))))))))))))))))))))
set_option maxRecDepth 20000 in
theorem sX11_mend_0 {C : qCx} {w : qWp} (h : qOk C w RX11 cX11_mend 4 15 155 155) (hm : qMt C (some .int)) (hx : qNx C) {j32 : qT (Int32 × qM)} (k32 : qSnd C w 4 155 (qQf C w 155 155 jI) qfin 155 61 j32) : qSnd C w 4 155 (qQf C w 155 155 jI) qfin 155 0 (tX11_mend_0 j32) :=
  cLi (pc := 0) h dX11_mend_0 rfl (kCi (pc := 1) h (kd_X11_287 h dX11_mend_1) spX11_isMinute (by decide) (by decide) (by decide) (by decide) (jNe (pc := 4) h dX11_mend_4 rfl (cLa (pc := 10) h dX11_mend_10 rfl (gGz (pc := 11) h dX11_mend_11 ff_X11_91_0 (Nat.le_of_ble_eq_true rfl) (Nat.le_of_ble_eq_true rfl) (jNe (pc := 14) h dX11_mend_14 rfl (cLa (pc := 20) h dX11_mend_20 rfl (gGf (pc := 21) h dX11_mend_21 ff_X11_69_0 (Nat.le_of_ble_eq_true rfl) (Nat.le_of_ble_eq_true rfl) rfl (cLi (pc := 24) h dX11_mend_24 rfl (kCi (pc := 25) h (kd_X11_290 h dX11_mend_25) spX9_knownAt (by decide) (by decide) (by decide) (by decide) (cSi (pc := 28) h dX11_mend_28 rfl (cLa (pc := 29) h dX11_mend_29 rfl (gGf (pc := 30) h dX11_mend_30 ff_X11_78_0 (Nat.le_of_ble_eq_true rfl) (Nat.le_of_ble_eq_true rfl) rfl (cLi (pc := 33) h dX11_mend_33 rfl (kCv (pc := 34) h (kd_X11_293 h dX11_mend_34) spX1_makeReady (by decide) (by decide) (by decide) (by decide) (cLa (pc := 37) h dX11_mend_37 rfl (gGf (pc := 38) h dX11_mend_38 ff_X11_78_0 (Nat.le_of_ble_eq_true rfl) (Nat.le_of_ble_eq_true rfl) rfl (cLi (pc := 41) h dX11_mend_41 rfl (kCi (pc := 42) h (kd_X11_316 h dX11_mend_42) spX1_missed (by decide) (by decide) (by decide) (by decide) (cC (pc := 45) h dX11_mend_45 rfl (jCLe (pc := 46) h dX11_mend_46 rfl (cLa (pc := 52) h dX11_mend_52 rfl (gGf (pc := 53) h dX11_mend_53 ff_X11_62_0 (Nat.le_of_ble_eq_true rfl) (Nat.le_of_ble_eq_true rfl) rfl (kCv (pc := 56) h (kd_X11_228 h dX11_mend_56) spX0_clear (by decide) (by decide) (by decide) (by decide) (cC (pc := 59) h dX11_mend_59 rfl (cSi (pc := 60) h dX11_mend_60 rfl (k32)))))) (cB (pc := 49) h dX11_mend_49 rfl (zI (pc := 51) h hm (Nat.le_refl _) dX11_mend_51))))))))))))))))) (cB (pc := 17) h dX11_mend_17 rfl (zI (pc := 19) h hm (Nat.le_refl _) dX11_mend_19))))) (cB (pc := 7) h dX11_mend_7 rfl (zI (pc := 9) h hm (Nat.le_refl _) dX11_mend_9))))
set_option maxRecDepth 20000 in
theorem lX11_mend_0 (a1 : Int32) (m : qM) : tX11_mend_0 (wX11_mend_32 (fX11_mend_32 FU)) [some (.ref 0), some (.int a1), none, none] [] m = fX11_mend_0 a1 m := rfl
noncomputable def GX11_mend : qG Int32 := fun av m => match av with
  | [.ref 0, .int a1] => fX11_mend a1 m
  | _ => none
theorem spX11_mend : qSpI yX11_mend (.code yX11_mend cX11_mend 4 (some .int)) 15 qfin 155 155 1 GX11_mend := by
  intro av m x m' hG
  unfold GX11_mend at hG
  split at hG
  · rename_i a1
    rw [fX11_mend_d] at hG
    exact ⟨qmeet (J := jI) (r := (x, m')) (av := [.ref 0, .int a1]) (by decide +kernel) (Nat.le_of_ble_eq_true rfl) (fun C w h hm hx hn => sX11_mend_0 h hm hx (bX11_mend_32 h hm hx FU)) ((lX11_mend_0 _ _).trans hG) (Nat.le_of_ble_eq_true rfl), Or.inl ⟨0, _, 11, _, _, rfl, by decide, rfl, qCk_11, rfl⟩⟩
  · cases hG
theorem im_X2_takeNote : Jvm.Cond.instanceMethod yX2_takeNote ∈ qTw := qm6 (List.mem_of_getElem? (i := 61) (by decide +kernel)) (by decide +kernel)
theorem se_X2_takeNote : Jvm.Cond.selects yX2_takeNote.cls yX2_takeNote yX2_takeNote ∈ qTw := qm6 (List.mem_of_getElem? (i := 62) (by decide +kernel)) (by decide +kernel)
theorem co_X2_takeNote : Jvm.Cond.code yX2_takeNote cX2_takeNote 4 (some .int) ∈ qTw := qm6 (List.mem_of_getElem? (i := 63) (by decide +kernel)) (by decide +kernel)
theorem yk_X2_takeNote : qYk yX2_takeNote 2 := ⟨⟨by decide +kernel, by decide +kernel⟩, by decide +kernel⟩
theorem ml_X11_325 : Jvm.Cond.methodLink RX11 325 yX2_takeNote ∈ qTw := qm6 (List.mem_of_getElem? (i := 60) (by decide +kernel)) (by decide +kernel)
theorem kd_X11_325 {C : qCx} {w : qWp} {cc : ByteArray} {nL dp n0 n1 pc : Nat} (h : qOk C w RX11 cc nL dp n0 n1) (d : decode cc pc = .ok (.invokevirtual 325, 3)) : qCallOk C w nL dp n0 n1 pc 3 1 yX2_takeNote (.code yX2_takeNote cX2_takeNote 4 (some .int)) := kindV h d ml_X11_325 im_X2_takeNote se_X2_takeNote in_ParentEve_Notes co_X2_takeNote yk_X2_takeNote (by decide)
theorem dX11_note_0 : decode cX11_note 0 = .ok (.aload_n 0, 1) := by decide +kernel
theorem dX11_note_1 : decode cX11_note 1 = .ok (.getfield 53, 3) := by decide +kernel
theorem dX11_note_4 : decode cX11_note 4 = .ok (.iload_n 1, 1) := by decide +kernel
theorem dX11_note_5 : decode cX11_note 5 = .ok (.invokevirtual 196, 3) := by decide +kernel
theorem dX11_note_8 : decode cX11_note 8 = .ok (.ifCond .eq 18, 3) := by decide +kernel
theorem dX11_note_11 : decode cX11_note 11 = .ok (.aload_n 0, 1) := by decide +kernel
theorem dX11_note_12 : decode cX11_note 12 = .ok (.getfield 87, 3) := by decide +kernel
theorem dX11_note_15 : decode cX11_note 15 = .ok (.iload_n 1, 1) := by decide +kernel
theorem dX11_note_16 : decode cX11_note 16 = .ok (.aload_n 0, 1) := by decide +kernel
theorem dX11_note_17 : decode cX11_note 17 = .ok (.getfield 12, 3) := by decide +kernel
theorem dX11_note_20 : decode cX11_note 20 = .ok (.invokevirtual 325, 3) := by decide +kernel
theorem dX11_note_23 : decode cX11_note 23 = .ok (.goto 5, 3) := by decide +kernel
theorem dX11_note_26 : decode cX11_note 26 = .ok (.bipush (-2), 2) := by decide +kernel
theorem dX11_note_28 : decode cX11_note 28 = .ok (.istore_n 2, 1) := by decide +kernel
theorem dX11_note_29 : decode cX11_note 29 = .ok (.aload_n 0, 1) := by decide +kernel
theorem dX11_note_30 : decode cX11_note 30 = .ok (.getfield 12, 3) := by decide +kernel
theorem dX11_note_33 : decode cX11_note 33 = .ok (.iconst 0, 1) := by decide +kernel
theorem dX11_note_34 : decode cX11_note 34 = .ok (.invokevirtual 107, 3) := by decide +kernel
theorem dX11_note_37 : decode cX11_note 37 = .ok (.iload_n 2, 1) := by decide +kernel
theorem dX11_note_38 : decode cX11_note 38 = .ok (.ireturn, 1) := by decide +kernel
noncomputable def tX11_note_13 : qT (Int32 × qM) :=
  oSi 2 (oLa 0 (oGf 0 0 1 (oC (.int (0 : Int32)) (oCv GX8_cut 2 (oLi 2 (eI))))))
noncomputable def wX11_note_13 (k : Int32 → qM → Option (Int32 × qM)) : qT (Int32 × qM) := fun lo st m => match lo, st with
  | [some (.ref 0), _, _], [.int s0] => k s0 m
  | _, _ => none
set_option maxRecDepth 20000 in
theorem sX11_note_13 {C : qCx} {w : qWp} (h : qOk C w RX11 cX11_note 3 3 155 155) (hm : qMt C (some .int)) (hx : qNx C) : qSnd C w 3 155 (qQf C w 155 155 jI) qfin 155 28 (tX11_note_13) :=
  cSi (pc := 28) h dX11_note_28 rfl (cLa (pc := 29) h dX11_note_29 rfl (gGf (pc := 30) h dX11_note_30 ff_X11_12_0 (Nat.le_of_ble_eq_true rfl) (Nat.le_of_ble_eq_true rfl) rfl (cC (pc := 33) h dX11_note_33 rfl (kCv (pc := 34) h (kd_X11_107 h dX11_note_34) spX8_cut (by decide) (by decide) (by decide) (by decide) (cLi (pc := 37) h dX11_note_37 rfl (zI (pc := 38) h hm (Nat.le_refl _) dX11_note_38))))))
set_option maxRecDepth 20000 in
theorem lX11_note_13 (s0 : Int32) (m : qM) : tX11_note_13 [some (.ref 0), none, none] [(.int s0)] m = fX11_note_13 s0 m := rfl
theorem bX11_note_13 {C : qCx} {w : qWp} (h : qOk C w RX11 cX11_note 3 3 155 155) (hm : qMt C (some .int)) (hx : qNx C) : qSnd C w 3 155 (qQf C w 155 155 jI) qfin 155 28 (wX11_note_13 fX11_note_13) :=
  qSnd_of (fun lo st m x hr0 => by
    unfold wX11_note_13 at hr0
    split at hr0
    · exact ⟨_, (qsub_e (qsub_n (qsub_n qsub_nil))), (lX11_note_13 _ _).trans hr0⟩
    · cases hr0) (sX11_note_13 h hm hx)
noncomputable def tX11_note_0 (j13 : qT (Int32 × qM)) : qT (Int32 × qM) :=
  oLa 0 (oGf 0 5 58 (oLi 1 (oCi GX4_isAsk 2 (oEq (oC (.int (-2 : Int32)) (j13)) (oLa 0 (oGf 0 9 93 (oLi 1 (oLa 0 (oGf 0 0 1 (oCi GX2_takeNote 3 (j13)))))))))))
set_option maxRecDepth 20000 in
theorem sX11_note_0 {C : qCx} {w : qWp} (h : qOk C w RX11 cX11_note 3 3 155 155) (hm : qMt C (some .int)) (hx : qNx C) {j13 : qT (Int32 × qM)} (k13 : qSnd C w 3 155 (qQf C w 155 155 jI) qfin 155 28 j13) : qSnd C w 3 155 (qQf C w 155 155 jI) qfin 155 0 (tX11_note_0 j13) :=
  cLa (pc := 0) h dX11_note_0 rfl (gGf (pc := 1) h dX11_note_1 ff_X11_53_0 (Nat.le_of_ble_eq_true rfl) (Nat.le_of_ble_eq_true rfl) rfl (cLi (pc := 4) h dX11_note_4 rfl (kCi (pc := 5) h (kd_X11_196 h dX11_note_5) spX4_isAsk (by decide) (by decide) (by decide) (by decide) (jEq (pc := 8) h dX11_note_8 rfl (cB (pc := 26) h dX11_note_26 rfl (k13)) (cLa (pc := 11) h dX11_note_11 rfl (gGf (pc := 12) h dX11_note_12 ff_X11_87_0 (Nat.le_of_ble_eq_true rfl) (Nat.le_of_ble_eq_true rfl) rfl (cLi (pc := 15) h dX11_note_15 rfl (cLa (pc := 16) h dX11_note_16 rfl (gGf (pc := 17) h dX11_note_17 ff_X11_12_0 (Nat.le_of_ble_eq_true rfl) (Nat.le_of_ble_eq_true rfl) rfl (kCi (pc := 20) h (kd_X11_325 h dX11_note_20) spX2_takeNote (by decide) (by decide) (by decide) (by decide) (jGo (pc := 23) h dX11_note_23 rfl (k13))))))))))))
set_option maxRecDepth 20000 in
theorem lX11_note_0 (a1 : Int32) (m : qM) : tX11_note_0 (wX11_note_13 fX11_note_13) [some (.ref 0), some (.int a1), none] [] m = fX11_note_0 a1 m := rfl
noncomputable def GX11_note : qG Int32 := fun av m => match av with
  | [.ref 0, .int a1] => fX11_note a1 m
  | _ => none
theorem spX11_note : qSpI yX11_note (.code yX11_note cX11_note 3 (some .int)) 3 qfin 155 155 1 GX11_note := by
  intro av m x m' hG
  unfold GX11_note at hG
  split at hG
  · rename_i a1
    rw [fX11_note_d] at hG
    exact ⟨qmeet (J := jI) (r := (x, m')) (av := [.ref 0, .int a1]) (by decide +kernel) (Nat.le_of_ble_eq_true rfl) (fun C w h hm hx hn => sX11_note_0 h hm hx (bX11_note_13 h hm hx)) ((lX11_note_0 _ _).trans hG) (Nat.le_of_ble_eq_true rfl), Or.inl ⟨0, _, 11, _, _, rfl, by decide, rfl, qCk_11, rfl⟩⟩
  · cases hG
theorem im_X2_setLet : Jvm.Cond.instanceMethod yX2_setLet ∈ qTw := qm6 (List.mem_of_getElem? (i := 75) (by decide +kernel)) (by decide +kernel)
theorem se_X2_setLet : Jvm.Cond.selects yX2_setLet.cls yX2_setLet yX2_setLet ∈ qTw := qm6 (List.mem_of_getElem? (i := 76) (by decide +kernel)) (by decide +kernel)
theorem co_X2_setLet : Jvm.Cond.code yX2_setLet cX2_setLet 4 (some .boolean) ∈ qTw := qm6 (List.mem_of_getElem? (i := 77) (by decide +kernel)) (by decide +kernel)
theorem yk_X2_setLet : qYk yX2_setLet 3 := ⟨⟨by decide +kernel, by decide +kernel⟩, by decide +kernel⟩
theorem ml_X11_329 : Jvm.Cond.methodLink RX11 329 yX2_setLet ∈ qTw := qm6 (List.mem_of_getElem? (i := 74) (by decide +kernel)) (by decide +kernel)
theorem kd_X11_329 {C : qCx} {w : qWp} {cc : ByteArray} {nL dp n0 n1 pc : Nat} (h : qOk C w RX11 cc nL dp n0 n1) (d : decode cc pc = .ok (.invokevirtual 329, 3)) : qCallOk C w nL dp n0 n1 pc 4 1 yX2_setLet (.code yX2_setLet cX2_setLet 4 (some .boolean)) := kindV h d ml_X11_329 im_X2_setLet se_X2_setLet in_ParentEve_Notes co_X2_setLet yk_X2_setLet (by decide)
theorem dX11_let_0 : decode cX11_let 0 = .ok (.aload_n 0, 1) := by decide +kernel
theorem dX11_let_1 : decode cX11_let 1 = .ok (.getfield 53, 3) := by decide +kernel
theorem dX11_let_4 : decode cX11_let 4 = .ok (.iload_n 1, 1) := by decide +kernel
theorem dX11_let_5 : decode cX11_let 5 = .ok (.invokevirtual 196, 3) := by decide +kernel
theorem dX11_let_8 : decode cX11_let 8 = .ok (.ifCond .eq 10, 3) := by decide +kernel
theorem dX11_let_11 : decode cX11_let 11 = .ok (.iload_n 2, 1) := by decide +kernel
theorem dX11_let_12 : decode cX11_let 12 = .ok (.invokestatic 140, 3) := by decide +kernel
theorem dX11_let_15 : decode cX11_let 15 = .ok (.ifCond .ne 6, 3) := by decide +kernel
theorem dX11_let_18 : decode cX11_let 18 = .ok (.bipush (-2), 2) := by decide +kernel
theorem dX11_let_20 : decode cX11_let 20 = .ok (.ireturn, 1) := by decide +kernel
theorem dX11_let_21 : decode cX11_let 21 = .ok (.aload_n 0, 1) := by decide +kernel
theorem dX11_let_22 : decode cX11_let 22 = .ok (.getfield 87, 3) := by decide +kernel
theorem dX11_let_25 : decode cX11_let 25 = .ok (.iload_n 1, 1) := by decide +kernel
theorem dX11_let_26 : decode cX11_let 26 = .ok (.iload_n 2, 1) := by decide +kernel
theorem dX11_let_27 : decode cX11_let 27 = .ok (.iload_n 3, 1) := by decide +kernel
theorem dX11_let_28 : decode cX11_let 28 = .ok (.invokevirtual 329, 3) := by decide +kernel
theorem dX11_let_31 : decode cX11_let 31 = .ok (.ifCond .eq 7, 3) := by decide +kernel
theorem dX11_let_34 : decode cX11_let 34 = .ok (.iconst 1, 1) := by decide +kernel
theorem dX11_let_35 : decode cX11_let 35 = .ok (.goto 4, 3) := by decide +kernel
theorem dX11_let_38 : decode cX11_let 38 = .ok (.iconst 0, 1) := by decide +kernel
theorem dX11_let_39 : decode cX11_let 39 = .ok (.ireturn, 1) := by decide +kernel
noncomputable def tX11_let_8 : qT (Int32 × qM) :=
  oC (.int (-2 : Int32)) (eI)
noncomputable def wX11_let_8 (k : qM → Option (Int32 × qM)) : qT (Int32 × qM) := fun lo st m => match lo, st with
  | [_, _, _, _], [] => k m
  | _, _ => none
set_option maxRecDepth 20000 in
theorem sX11_let_8 {C : qCx} {w : qWp} (h : qOk C w RX11 cX11_let 4 2 155 155) (hm : qMt C (some .int)) (hx : qNx C) : qSnd C w 4 155 (qQf C w 155 155 jI) qfin 155 18 (tX11_let_8) :=
  cB (pc := 18) h dX11_let_18 rfl (zI (pc := 20) h hm (Nat.le_refl _) dX11_let_20)
set_option maxRecDepth 20000 in
theorem lX11_let_8 (m : qM) : tX11_let_8 [none, none, none, none] [] m = fX11_let_8 m := rfl
theorem bX11_let_8 {C : qCx} {w : qWp} (h : qOk C w RX11 cX11_let 4 2 155 155) (hm : qMt C (some .int)) (hx : qNx C) : qSnd C w 4 155 (qQf C w 155 155 jI) qfin 155 18 (wX11_let_8 fX11_let_8) :=
  qSnd_of (fun lo st m x hr0 => by
    unfold wX11_let_8 at hr0
    split at hr0
    · exact ⟨_, (qsub_n (qsub_n (qsub_n (qsub_n qsub_nil)))), (lX11_let_8 _).trans hr0⟩
    · cases hr0) (sX11_let_8 h hm hx)
noncomputable def tX11_let_20 : qT (Int32 × qM) :=
  eI
noncomputable def wX11_let_20 (k : Int32 → qM → Option (Int32 × qM)) : qT (Int32 × qM) := fun lo st m => match lo, st with
  | [_, _, _, _], [.int s0] => k s0 m
  | _, _ => none
set_option maxRecDepth 20000 in
theorem sX11_let_20 {C : qCx} {w : qWp} (h : qOk C w RX11 cX11_let 4 2 155 155) (hm : qMt C (some .int)) (hx : qNx C) : qSnd C w 4 155 (qQf C w 155 155 jI) qfin 155 39 (tX11_let_20) :=
  zI (pc := 39) h hm (Nat.le_refl _) dX11_let_39
set_option maxRecDepth 20000 in
theorem lX11_let_20 (s0 : Int32) (m : qM) : tX11_let_20 [none, none, none, none] [(.int s0)] m = fX11_let_20 s0 m := rfl
theorem bX11_let_20 {C : qCx} {w : qWp} (h : qOk C w RX11 cX11_let 4 2 155 155) (hm : qMt C (some .int)) (hx : qNx C) : qSnd C w 4 155 (qQf C w 155 155 jI) qfin 155 39 (wX11_let_20 fX11_let_20) :=
  qSnd_of (fun lo st m x hr0 => by
    unfold wX11_let_20 at hr0
    split at hr0
    · exact ⟨_, (qsub_n (qsub_n (qsub_n (qsub_n qsub_nil)))), (lX11_let_20 _ _).trans hr0⟩
    · cases hr0) (sX11_let_20 h hm hx)
noncomputable def tX11_let_0 (j8 : qT (Int32 × qM)) (j20 : qT (Int32 × qM)) : qT (Int32 × qM) :=
  oLa 0 (oGf 0 5 58 (oLi 1 (oCi GX4_isAsk 2 (oEq (j8) (oLi 2 (oCi GX11_isTeacher 1 (oEq (j8) (oLa 0 (oGf 0 9 93 (oLi 1 (oLi 2 (oLi 3 (oCi GX2_setLet 4 (oEq (oC (.int (0 : Int32)) (j20)) (oC (.int (1 : Int32)) (j20))))))))))))))))
set_option maxRecDepth 20000 in
theorem sX11_let_0 {C : qCx} {w : qWp} (h : qOk C w RX11 cX11_let 4 2 155 155) (hm : qMt C (some .int)) (hx : qNx C) {j8 : qT (Int32 × qM)} {j20 : qT (Int32 × qM)} (k8 : qSnd C w 4 155 (qQf C w 155 155 jI) qfin 155 18 j8) (k20 : qSnd C w 4 155 (qQf C w 155 155 jI) qfin 155 39 j20) : qSnd C w 4 155 (qQf C w 155 155 jI) qfin 155 0 (tX11_let_0 j8 j20) :=
  cLa (pc := 0) h dX11_let_0 rfl (gGf (pc := 1) h dX11_let_1 ff_X11_53_0 (Nat.le_of_ble_eq_true rfl) (Nat.le_of_ble_eq_true rfl) rfl (cLi (pc := 4) h dX11_let_4 rfl (kCi (pc := 5) h (kd_X11_196 h dX11_let_5) spX4_isAsk (by decide) (by decide) (by decide) (by decide) (jEq (pc := 8) h dX11_let_8 rfl (k8) (cLi (pc := 11) h dX11_let_11 rfl (kCi (pc := 12) h (kd_X11_140 h dX11_let_12) spX11_isTeacher (by decide) (by decide) (by decide) (by decide) (jNe (pc := 15) h dX11_let_15 rfl (cLa (pc := 21) h dX11_let_21 rfl (gGf (pc := 22) h dX11_let_22 ff_X11_87_0 (Nat.le_of_ble_eq_true rfl) (Nat.le_of_ble_eq_true rfl) rfl (cLi (pc := 25) h dX11_let_25 rfl (cLi (pc := 26) h dX11_let_26 rfl (cLi (pc := 27) h dX11_let_27 rfl (kCi (pc := 28) h (kd_X11_329 h dX11_let_28) spX2_setLet (by decide) (by decide) (by decide) (by decide) (jEq (pc := 31) h dX11_let_31 rfl (cC (pc := 38) h dX11_let_38 rfl (k20)) (cC (pc := 34) h dX11_let_34 rfl (jGo (pc := 35) h dX11_let_35 rfl (k20)))))))))) (k8))))))))
set_option maxRecDepth 20000 in
theorem lX11_let_0 (a1 : Int32) (a2 : Int32) (a3 : Int32) (m : qM) : tX11_let_0 (wX11_let_8 fX11_let_8) (wX11_let_20 fX11_let_20) [some (.ref 0), some (.int a1), some (.int a2), some (.int a3)] [] m = fX11_let_0 a1 a2 a3 m := rfl
noncomputable def GX11_let : qG Int32 := fun av m => match av with
  | [.ref 0, .int a1, .int a2, .int a3] => fX11_let a1 a2 a3 m
  | _ => none
theorem spX11_let : qSpI yX11_let (.code yX11_let cX11_let 4 (some .int)) 2 qfin 155 155 1 GX11_let := by
  intro av m x m' hG
  unfold GX11_let at hG
  split at hG
  · rename_i a1 a2 a3
    rw [fX11_let_d] at hG
    exact ⟨qmeet (J := jI) (r := (x, m')) (av := [.ref 0, .int a1, .int a2, .int a3]) (by decide +kernel) (Nat.le_of_ble_eq_true rfl) (fun C w h hm hx hn => sX11_let_0 h hm hx (bX11_let_8 h hm hx) (bX11_let_20 h hm hx)) ((lX11_let_0 _ _ _ _).trans hG) (Nat.le_of_ble_eq_true rfl), Or.inl ⟨0, _, 11, _, _, rfl, by decide, rfl, qCk_11, rfl⟩⟩
  · cases hG
theorem ml_X11_332 : Jvm.Cond.methodLink RX11 332 yX2_mayRead ∈ qTw := qm6 (List.mem_of_getElem? (i := 83) (by decide +kernel)) (by decide +kernel)
theorem kd_X11_332 {C : qCx} {w : qWp} {cc : ByteArray} {nL dp n0 n1 pc : Nat} (h : qOk C w RX11 cc nL dp n0 n1) (d : decode cc pc = .ok (.invokevirtual 332, 3)) : qCallOk C w nL dp n0 n1 pc 3 1 yX2_mayRead (.code yX2_mayRead cX2_mayRead 3 (some .boolean)) := kindV h d ml_X11_332 im_X2_mayRead se_X2_mayRead in_ParentEve_Notes co_X2_mayRead yk_X2_mayRead (by decide)
theorem ml_X11_335 : Jvm.Cond.methodLink RX11 335 yX2_byteOf ∈ qTw := qm6 (List.mem_of_getElem? (i := 88) (by decide +kernel)) (by decide +kernel)
theorem kd_X11_335 {C : qCx} {w : qWp} {cc : ByteArray} {nL dp n0 n1 pc : Nat} (h : qOk C w RX11 cc nL dp n0 n1) (d : decode cc pc = .ok (.invokevirtual 335, 3)) : qCallOk C w nL dp n0 n1 pc 3 1 yX2_byteOf (.code yX2_byteOf cX2_byteOf 3 (some .int)) := kindV h d ml_X11_335 im_X2_byteOf se_X2_byteOf in_ParentEve_Notes co_X2_byteOf yk_X2_byteOf (by decide)
theorem dX11_read_0 : decode cX11_read 0 = .ok (.iload_n 1, 1) := by decide +kernel
theorem dX11_read_1 : decode cX11_read 1 = .ok (.invokestatic 140, 3) := by decide +kernel
theorem dX11_read_4 : decode cX11_read 4 = .ok (.ifCond .eq 14, 3) := by decide +kernel
theorem dX11_read_7 : decode cX11_read 7 = .ok (.aload_n 0, 1) := by decide +kernel
theorem dX11_read_8 : decode cX11_read 8 = .ok (.getfield 53, 3) := by decide +kernel
theorem dX11_read_11 : decode cX11_read 11 = .ok (.iload_n 2, 1) := by decide +kernel
theorem dX11_read_12 : decode cX11_read 12 = .ok (.invokevirtual 196, 3) := by decide +kernel
theorem dX11_read_15 : decode cX11_read 15 = .ok (.ifCond .ne 6, 3) := by decide +kernel
theorem dX11_read_18 : decode cX11_read 18 = .ok (.bipush (-2), 2) := by decide +kernel
theorem dX11_read_20 : decode cX11_read 20 = .ok (.ireturn, 1) := by decide +kernel
theorem dX11_read_21 : decode cX11_read 21 = .ok (.aload_n 0, 1) := by decide +kernel
theorem dX11_read_22 : decode cX11_read 22 = .ok (.getfield 87, 3) := by decide +kernel
theorem dX11_read_25 : decode cX11_read 25 = .ok (.iload_n 1, 1) := by decide +kernel
theorem dX11_read_26 : decode cX11_read 26 = .ok (.iload_n 2, 1) := by decide +kernel
theorem dX11_read_27 : decode cX11_read 27 = .ok (.invokevirtual 332, 3) := by decide +kernel
theorem dX11_read_30 : decode cX11_read 30 = .ok (.ifCond .eq 15, 3) := by decide +kernel
theorem dX11_read_33 : decode cX11_read 33 = .ok (.aload_n 0, 1) := by decide +kernel
theorem dX11_read_34 : decode cX11_read 34 = .ok (.getfield 87, 3) := by decide +kernel
theorem dX11_read_37 : decode cX11_read 37 = .ok (.iload_n 2, 1) := by decide +kernel
theorem dX11_read_38 : decode cX11_read 38 = .ok (.iload_n 3, 1) := by decide +kernel
theorem dX11_read_39 : decode cX11_read 39 = .ok (.invokevirtual 335, 3) := by decide +kernel
theorem dX11_read_42 : decode cX11_read 42 = .ok (.goto 4, 3) := by decide +kernel
theorem dX11_read_45 : decode cX11_read 45 = .ok (.iconst (-1), 1) := by decide +kernel
theorem dX11_read_46 : decode cX11_read 46 = .ok (.ireturn, 1) := by decide +kernel
noncomputable def tX11_read_8 : qT (Int32 × qM) :=
  oC (.int (-2 : Int32)) (eI)
noncomputable def wX11_read_8 (k : qM → Option (Int32 × qM)) : qT (Int32 × qM) := fun lo st m => match lo, st with
  | [_, _, _, _], [] => k m
  | _, _ => none
set_option maxRecDepth 20000 in
theorem sX11_read_8 {C : qCx} {w : qWp} (h : qOk C w RX11 cX11_read 4 2 155 155) (hm : qMt C (some .int)) (hx : qNx C) : qSnd C w 4 155 (qQf C w 155 155 jI) qfin 155 18 (tX11_read_8) :=
  cB (pc := 18) h dX11_read_18 rfl (zI (pc := 20) h hm (Nat.le_refl _) dX11_read_20)
set_option maxRecDepth 20000 in
theorem lX11_read_8 (m : qM) : tX11_read_8 [none, none, none, none] [] m = fX11_read_8 m := rfl
theorem bX11_read_8 {C : qCx} {w : qWp} (h : qOk C w RX11 cX11_read 4 2 155 155) (hm : qMt C (some .int)) (hx : qNx C) : qSnd C w 4 155 (qQf C w 155 155 jI) qfin 155 18 (wX11_read_8 fX11_read_8) :=
  qSnd_of (fun lo st m x hr0 => by
    unfold wX11_read_8 at hr0
    split at hr0
    · exact ⟨_, (qsub_n (qsub_n (qsub_n (qsub_n qsub_nil)))), (lX11_read_8 _).trans hr0⟩
    · cases hr0) (sX11_read_8 h hm hx)
noncomputable def tX11_read_23 : qT (Int32 × qM) :=
  eI
noncomputable def wX11_read_23 (k : Int32 → qM → Option (Int32 × qM)) : qT (Int32 × qM) := fun lo st m => match lo, st with
  | [_, _, _, _], [.int s0] => k s0 m
  | _, _ => none
set_option maxRecDepth 20000 in
theorem sX11_read_23 {C : qCx} {w : qWp} (h : qOk C w RX11 cX11_read 4 2 155 155) (hm : qMt C (some .int)) (hx : qNx C) : qSnd C w 4 155 (qQf C w 155 155 jI) qfin 155 46 (tX11_read_23) :=
  zI (pc := 46) h hm (Nat.le_refl _) dX11_read_46
set_option maxRecDepth 20000 in
theorem lX11_read_23 (s0 : Int32) (m : qM) : tX11_read_23 [none, none, none, none] [(.int s0)] m = fX11_read_23 s0 m := rfl
theorem bX11_read_23 {C : qCx} {w : qWp} (h : qOk C w RX11 cX11_read 4 2 155 155) (hm : qMt C (some .int)) (hx : qNx C) : qSnd C w 4 155 (qQf C w 155 155 jI) qfin 155 46 (wX11_read_23 fX11_read_23) :=
  qSnd_of (fun lo st m x hr0 => by
    unfold wX11_read_23 at hr0
    split at hr0
    · exact ⟨_, (qsub_n (qsub_n (qsub_n (qsub_n qsub_nil)))), (lX11_read_23 _ _).trans hr0⟩
    · cases hr0) (sX11_read_23 h hm hx)
noncomputable def tX11_read_0 (j8 : qT (Int32 × qM)) (j23 : qT (Int32 × qM)) : qT (Int32 × qM) :=
  oLi 1 (oCi GX11_isTeacher 1 (oEq (j8) (oLa 0 (oGf 0 5 58 (oLi 2 (oCi GX4_isAsk 2 (oEq (j8) (oLa 0 (oGf 0 9 93 (oLi 1 (oLi 2 (oCi GX2_mayRead 3 (oEq (oC (.int (-1 : Int32)) (j23)) (oLa 0 (oGf 0 9 93 (oLi 2 (oLi 3 (oCi GX2_byteOf 3 (j23)))))))))))))))))))
set_option maxRecDepth 20000 in
theorem sX11_read_0 {C : qCx} {w : qWp} (h : qOk C w RX11 cX11_read 4 2 155 155) (hm : qMt C (some .int)) (hx : qNx C) {j8 : qT (Int32 × qM)} {j23 : qT (Int32 × qM)} (k8 : qSnd C w 4 155 (qQf C w 155 155 jI) qfin 155 18 j8) (k23 : qSnd C w 4 155 (qQf C w 155 155 jI) qfin 155 46 j23) : qSnd C w 4 155 (qQf C w 155 155 jI) qfin 155 0 (tX11_read_0 j8 j23) :=
  cLi (pc := 0) h dX11_read_0 rfl (kCi (pc := 1) h (kd_X11_140 h dX11_read_1) spX11_isTeacher (by decide) (by decide) (by decide) (by decide) (jEq (pc := 4) h dX11_read_4 rfl (k8) (cLa (pc := 7) h dX11_read_7 rfl (gGf (pc := 8) h dX11_read_8 ff_X11_53_0 (Nat.le_of_ble_eq_true rfl) (Nat.le_of_ble_eq_true rfl) rfl (cLi (pc := 11) h dX11_read_11 rfl (kCi (pc := 12) h (kd_X11_196 h dX11_read_12) spX4_isAsk (by decide) (by decide) (by decide) (by decide) (jNe (pc := 15) h dX11_read_15 rfl (cLa (pc := 21) h dX11_read_21 rfl (gGf (pc := 22) h dX11_read_22 ff_X11_87_0 (Nat.le_of_ble_eq_true rfl) (Nat.le_of_ble_eq_true rfl) rfl (cLi (pc := 25) h dX11_read_25 rfl (cLi (pc := 26) h dX11_read_26 rfl (kCi (pc := 27) h (kd_X11_332 h dX11_read_27) spX2_mayRead (by decide) (by decide) (by decide) (by decide) (jEq (pc := 30) h dX11_read_30 rfl (cC (pc := 45) h dX11_read_45 rfl (k23)) (cLa (pc := 33) h dX11_read_33 rfl (gGf (pc := 34) h dX11_read_34 ff_X11_87_0 (Nat.le_of_ble_eq_true rfl) (Nat.le_of_ble_eq_true rfl) rfl (cLi (pc := 37) h dX11_read_37 rfl (cLi (pc := 38) h dX11_read_38 rfl (kCi (pc := 39) h (kd_X11_335 h dX11_read_39) spX2_byteOf (by decide) (by decide) (by decide) (by decide) (jGo (pc := 42) h dX11_read_42 rfl (k23))))))))))))) (k8))))))))
set_option maxRecDepth 20000 in
theorem lX11_read_0 (a1 : Int32) (a2 : Int32) (a3 : Int32) (m : qM) : tX11_read_0 (wX11_read_8 fX11_read_8) (wX11_read_23 fX11_read_23) [some (.ref 0), some (.int a1), some (.int a2), some (.int a3)] [] m = fX11_read_0 a1 a2 a3 m := rfl
noncomputable def GX11_read : qG Int32 := fun av m => match av with
  | [.ref 0, .int a1, .int a2, .int a3] => fX11_read a1 a2 a3 m
  | _ => none
theorem spX11_read : qSpI yX11_read (.code yX11_read cX11_read 4 (some .int)) 2 qfin 155 155 1 GX11_read := by
  intro av m x m' hG
  unfold GX11_read at hG
  split at hG
  · rename_i a1 a2 a3
    rw [fX11_read_d] at hG
    exact ⟨qmeet (J := jI) (r := (x, m')) (av := [.ref 0, .int a1, .int a2, .int a3]) (by decide +kernel) (Nat.le_of_ble_eq_true rfl) (fun C w h hm hx hn => sX11_read_0 h hm hx (bX11_read_8 h hm hx) (bX11_read_23 h hm hx)) ((lX11_read_0 _ _ _ _).trans hG) (Nat.le_of_ble_eq_true rfl), Or.inl ⟨0, _, 11, _, _, rfl, by decide, rfl, qCk_11, rfl⟩⟩
  · cases hG
theorem im_X2_search : Jvm.Cond.instanceMethod yX2_search ∈ qTw := qm6 (List.mem_of_getElem? (i := 97) (by decide +kernel)) (by decide +kernel)
theorem se_X2_search : Jvm.Cond.selects yX2_search.cls yX2_search yX2_search ∈ qTw := qm6 (List.mem_of_getElem? (i := 98) (by decide +kernel)) (by decide +kernel)
theorem co_X2_search : Jvm.Cond.code yX2_search cX2_search 4 (some .int) ∈ qTw := qm6 (List.mem_of_getElem? (i := 99) (by decide +kernel)) (by decide +kernel)
theorem yk_X2_search : qYk yX2_search 2 := ⟨⟨by decide +kernel, by decide +kernel⟩, by decide +kernel⟩
theorem ml_X11_338 : Jvm.Cond.methodLink RX11 338 yX2_search ∈ qTw := qm6 (List.mem_of_getElem? (i := 96) (by decide +kernel)) (by decide +kernel)
theorem kd_X11_338 {C : qCx} {w : qWp} {cc : ByteArray} {nL dp n0 n1 pc : Nat} (h : qOk C w RX11 cc nL dp n0 n1) (d : decode cc pc = .ok (.invokevirtual 338, 3)) : qCallOk C w nL dp n0 n1 pc 3 1 yX2_search (.code yX2_search cX2_search 4 (some .int)) := kindV h d ml_X11_338 im_X2_search se_X2_search in_ParentEve_Notes co_X2_search yk_X2_search (by decide)
theorem dX11_find_0 : decode cX11_find 0 = .ok (.iload_n 1, 1) := by decide +kernel
theorem dX11_find_1 : decode cX11_find 1 = .ok (.invokestatic 140, 3) := by decide +kernel
theorem dX11_find_4 : decode cX11_find 4 = .ok (.ifCond .eq 18, 3) := by decide +kernel
theorem dX11_find_7 : decode cX11_find 7 = .ok (.aload_n 0, 1) := by decide +kernel
theorem dX11_find_8 : decode cX11_find 8 = .ok (.getfield 87, 3) := by decide +kernel
theorem dX11_find_11 : decode cX11_find 11 = .ok (.iload_n 1, 1) := by decide +kernel
theorem dX11_find_12 : decode cX11_find 12 = .ok (.aload_n 0, 1) := by decide +kernel
theorem dX11_find_13 : decode cX11_find 13 = .ok (.getfield 12, 3) := by decide +kernel
theorem dX11_find_16 : decode cX11_find 16 = .ok (.invokevirtual 338, 3) := by decide +kernel
theorem dX11_find_19 : decode cX11_find 19 = .ok (.goto 5, 3) := by decide +kernel
theorem dX11_find_22 : decode cX11_find 22 = .ok (.bipush (-2), 2) := by decide +kernel
theorem dX11_find_24 : decode cX11_find 24 = .ok (.istore_n 2, 1) := by decide +kernel
theorem dX11_find_25 : decode cX11_find 25 = .ok (.aload_n 0, 1) := by decide +kernel
theorem dX11_find_26 : decode cX11_find 26 = .ok (.getfield 12, 3) := by decide +kernel
theorem dX11_find_29 : decode cX11_find 29 = .ok (.iconst 0, 1) := by decide +kernel
theorem dX11_find_30 : decode cX11_find 30 = .ok (.invokevirtual 107, 3) := by decide +kernel
theorem dX11_find_33 : decode cX11_find 33 = .ok (.iload_n 2, 1) := by decide +kernel
theorem dX11_find_34 : decode cX11_find 34 = .ok (.ireturn, 1) := by decide +kernel
noncomputable def tX11_find_11 : qT (Int32 × qM) :=
  oSi 2 (oLa 0 (oGf 0 0 1 (oC (.int (0 : Int32)) (oCv GX8_cut 2 (oLi 2 (eI))))))
noncomputable def wX11_find_11 (k : Int32 → qM → Option (Int32 × qM)) : qT (Int32 × qM) := fun lo st m => match lo, st with
  | [some (.ref 0), _, _], [.int s0] => k s0 m
  | _, _ => none
set_option maxRecDepth 20000 in
theorem sX11_find_11 {C : qCx} {w : qWp} (h : qOk C w RX11 cX11_find 3 5 155 155) (hm : qMt C (some .int)) (hx : qNx C) : qSnd C w 3 155 (qQf C w 155 155 jI) qfin 155 24 (tX11_find_11) :=
  cSi (pc := 24) h dX11_find_24 rfl (cLa (pc := 25) h dX11_find_25 rfl (gGf (pc := 26) h dX11_find_26 ff_X11_12_0 (Nat.le_of_ble_eq_true rfl) (Nat.le_of_ble_eq_true rfl) rfl (cC (pc := 29) h dX11_find_29 rfl (kCv (pc := 30) h (kd_X11_107 h dX11_find_30) spX8_cut (by decide) (by decide) (by decide) (by decide) (cLi (pc := 33) h dX11_find_33 rfl (zI (pc := 34) h hm (Nat.le_refl _) dX11_find_34))))))
set_option maxRecDepth 20000 in
theorem lX11_find_11 (s0 : Int32) (m : qM) : tX11_find_11 [some (.ref 0), none, none] [(.int s0)] m = fX11_find_11 s0 m := rfl
theorem bX11_find_11 {C : qCx} {w : qWp} (h : qOk C w RX11 cX11_find 3 5 155 155) (hm : qMt C (some .int)) (hx : qNx C) : qSnd C w 3 155 (qQf C w 155 155 jI) qfin 155 24 (wX11_find_11 fX11_find_11) :=
  qSnd_of (fun lo st m x hr0 => by
    unfold wX11_find_11 at hr0
    split at hr0
    · exact ⟨_, (qsub_e (qsub_n (qsub_n qsub_nil))), (lX11_find_11 _ _).trans hr0⟩
    · cases hr0) (sX11_find_11 h hm hx)
noncomputable def tX11_find_0 (j11 : qT (Int32 × qM)) : qT (Int32 × qM) :=
  oLi 1 (oCi GX11_isTeacher 1 (oEq (oC (.int (-2 : Int32)) (j11)) (oLa 0 (oGf 0 9 93 (oLi 1 (oLa 0 (oGf 0 0 1 (oCi GX2_search 3 (j11)))))))))
set_option maxRecDepth 20000 in
theorem sX11_find_0 {C : qCx} {w : qWp} (h : qOk C w RX11 cX11_find 3 5 155 155) (hm : qMt C (some .int)) (hx : qNx C) {j11 : qT (Int32 × qM)} (k11 : qSnd C w 3 155 (qQf C w 155 155 jI) qfin 155 24 j11) : qSnd C w 3 155 (qQf C w 155 155 jI) qfin 155 0 (tX11_find_0 j11) :=
  cLi (pc := 0) h dX11_find_0 rfl (kCi (pc := 1) h (kd_X11_140 h dX11_find_1) spX11_isTeacher (by decide) (by decide) (by decide) (by decide) (jEq (pc := 4) h dX11_find_4 rfl (cB (pc := 22) h dX11_find_22 rfl (k11)) (cLa (pc := 7) h dX11_find_7 rfl (gGf (pc := 8) h dX11_find_8 ff_X11_87_0 (Nat.le_of_ble_eq_true rfl) (Nat.le_of_ble_eq_true rfl) rfl (cLi (pc := 11) h dX11_find_11 rfl (cLa (pc := 12) h dX11_find_12 rfl (gGf (pc := 13) h dX11_find_13 ff_X11_12_0 (Nat.le_of_ble_eq_true rfl) (Nat.le_of_ble_eq_true rfl) rfl (kCi (pc := 16) h (kd_X11_338 h dX11_find_16) spX2_search (by decide) (by decide) (by decide) (by decide) (jGo (pc := 19) h dX11_find_19 rfl (k11))))))))))
set_option maxRecDepth 20000 in
theorem lX11_find_0 (a1 : Int32) (m : qM) : tX11_find_0 (wX11_find_11 fX11_find_11) [some (.ref 0), some (.int a1), none] [] m = fX11_find_0 a1 m := rfl
noncomputable def GX11_find : qG Int32 := fun av m => match av with
  | [.ref 0, .int a1] => fX11_find a1 m
  | _ => none
theorem spX11_find : qSpI yX11_find (.code yX11_find cX11_find 3 (some .int)) 5 qfin 155 155 1 GX11_find := by
  intro av m x m' hG
  unfold GX11_find at hG
  split at hG
  · rename_i a1
    rw [fX11_find_d] at hG
    exact ⟨qmeet (J := jI) (r := (x, m')) (av := [.ref 0, .int a1]) (by decide +kernel) (Nat.le_of_ble_eq_true rfl) (fun C w h hm hx hn => sX11_find_0 h hm hx (bX11_find_11 h hm hx)) ((lX11_find_0 _ _).trans hG) (Nat.le_of_ble_eq_true rfl), Or.inl ⟨0, _, 11, _, _, rfl, by decide, rfl, qCk_11, rfl⟩⟩
  · cases hG
theorem im_X2_foundAt : Jvm.Cond.instanceMethod yX2_foundAt ∈ qTw := qm6 (List.mem_of_getElem? (i := 125) (by decide +kernel)) (by decide +kernel)
theorem se_X2_foundAt : Jvm.Cond.selects yX2_foundAt.cls yX2_foundAt yX2_foundAt ∈ qTw := qm6 (List.mem_of_getElem? (i := 126) (by decide +kernel)) (by decide +kernel)
theorem co_X2_foundAt : Jvm.Cond.code yX2_foundAt cX2_foundAt 2 (some .int) ∈ qTw := qm6 (List.mem_of_getElem? (i := 127) (by decide +kernel)) (by decide +kernel)
theorem yk_X2_foundAt : qYk yX2_foundAt 1 := ⟨⟨by decide +kernel, by decide +kernel⟩, by decide +kernel⟩
theorem ml_X11_341 : Jvm.Cond.methodLink RX11 341 yX2_foundAt ∈ qTw := qm6 (List.mem_of_getElem? (i := 124) (by decide +kernel)) (by decide +kernel)
theorem kd_X11_341 {C : qCx} {w : qWp} {cc : ByteArray} {nL dp n0 n1 pc : Nat} (h : qOk C w RX11 cc nL dp n0 n1) (d : decode cc pc = .ok (.invokevirtual 341, 3)) : qCallOk C w nL dp n0 n1 pc 2 1 yX2_foundAt (.code yX2_foundAt cX2_foundAt 2 (some .int)) := kindV h d ml_X11_341 im_X2_foundAt se_X2_foundAt in_ParentEve_Notes co_X2_foundAt yk_X2_foundAt (by decide)
theorem dX11_found_0 : decode cX11_found 0 = .ok (.aload_n 0, 1) := by decide +kernel
theorem dX11_found_1 : decode cX11_found 1 = .ok (.getfield 87, 3) := by decide +kernel
theorem dX11_found_4 : decode cX11_found 4 = .ok (.iload_n 1, 1) := by decide +kernel
theorem dX11_found_5 : decode cX11_found 5 = .ok (.invokevirtual 341, 3) := by decide +kernel
theorem dX11_found_8 : decode cX11_found 8 = .ok (.ireturn, 1) := by decide +kernel
noncomputable def tX11_found_0 : qT (Int32 × qM) :=
  oLa 0 (oGf 0 9 93 (oLi 1 (oCi GX2_foundAt 2 (eI))))
set_option maxRecDepth 20000 in
theorem sX11_found_0 {C : qCx} {w : qWp} (h : qOk C w RX11 cX11_found 2 1 155 155) (hm : qMt C (some .int)) (hx : qNx C) : qSnd C w 2 155 (qQf C w 155 155 jI) qfin 155 0 (tX11_found_0) :=
  cLa (pc := 0) h dX11_found_0 rfl (gGf (pc := 1) h dX11_found_1 ff_X11_87_0 (Nat.le_of_ble_eq_true rfl) (Nat.le_of_ble_eq_true rfl) rfl (cLi (pc := 4) h dX11_found_4 rfl (kCi (pc := 5) h (kd_X11_341 h dX11_found_5) spX2_foundAt (by decide) (by decide) (by decide) (by decide) (zI (pc := 8) h hm (Nat.le_refl _) dX11_found_8))))
set_option maxRecDepth 20000 in
theorem lX11_found_0 (a1 : Int32) (m : qM) : tX11_found_0 [some (.ref 0), some (.int a1)] [] m = fX11_found_0 a1 m := rfl
noncomputable def GX11_found : qG Int32 := fun av m => match av with
  | [.ref 0, .int a1] => fX11_found a1 m
  | _ => none
theorem spX11_found : qSpI yX11_found (.code yX11_found cX11_found 2 (some .int)) 1 qfin 155 155 1 GX11_found := by
  intro av m x m' hG
  unfold GX11_found at hG
  split at hG
  · rename_i a1
    rw [fX11_found_d] at hG
    exact ⟨qmeet (J := jI) (r := (x, m')) (av := [.ref 0, .int a1]) (by decide +kernel) (Nat.le_of_ble_eq_true rfl) (fun C w h hm hx hn => sX11_found_0 h hm hx) ((lX11_found_0 _ _).trans hG) (Nat.le_of_ble_eq_true rfl), Or.inl ⟨0, _, 11, _, _, rfl, by decide, rfl, qCk_11, rfl⟩⟩
  · cases hG
theorem im_X4_musts : Jvm.Cond.instanceMethod yX4_musts ∈ qTw := qm6 (List.mem_of_getElem? (i := 133) (by decide +kernel)) (by decide +kernel)
theorem se_X4_musts : Jvm.Cond.selects yX4_musts.cls yX4_musts yX4_musts ∈ qTw := qm6 (List.mem_of_getElem? (i := 134) (by decide +kernel)) (by decide +kernel)
theorem co_X4_musts : Jvm.Cond.code yX4_musts cX4_musts 1 (some .int) ∈ qTw := qm6 (List.mem_of_getElem? (i := 135) (by decide +kernel)) (by decide +kernel)
theorem yk_X4_musts : qYk yX4_musts 0 := ⟨⟨by decide +kernel, by decide +kernel⟩, by decide +kernel⟩
theorem ml_X11_344 : Jvm.Cond.methodLink RX11 344 yX4_musts ∈ qTw := qm6 (List.mem_of_getElem? (i := 132) (by decide +kernel)) (by decide +kernel)
theorem kd_X11_344 {C : qCx} {w : qWp} {cc : ByteArray} {nL dp n0 n1 pc : Nat} (h : qOk C w RX11 cc nL dp n0 n1) (d : decode cc pc = .ok (.invokevirtual 344, 3)) : qCallOk C w nL dp n0 n1 pc 1 1 yX4_musts (.code yX4_musts cX4_musts 1 (some .int)) := kindV h d ml_X11_344 im_X4_musts se_X4_musts in_ParentEve_Plan co_X4_musts yk_X4_musts (by decide)
theorem im_X1_lastStop : Jvm.Cond.instanceMethod yX1_lastStop ∈ qTw := qm6 (List.mem_of_getElem? (i := 137) (by decide +kernel)) (by decide +kernel)
theorem se_X1_lastStop : Jvm.Cond.selects yX1_lastStop.cls yX1_lastStop yX1_lastStop ∈ qTw := qm6 (List.mem_of_getElem? (i := 138) (by decide +kernel)) (by decide +kernel)
theorem co_X1_lastStop : Jvm.Cond.code yX1_lastStop cX1_lastStop 4 (some .int) ∈ qTw := qm6 (List.mem_of_getElem? (i := 139) (by decide +kernel)) (by decide +kernel)
theorem yk_X1_lastStop : qYk yX1_lastStop 1 := ⟨⟨by decide +kernel, by decide +kernel⟩, by decide +kernel⟩
theorem ml_X11_347 : Jvm.Cond.methodLink RX11 347 yX1_lastStop ∈ qTw := qm6 (List.mem_of_getElem? (i := 136) (by decide +kernel)) (by decide +kernel)
theorem kd_X11_347 {C : qCx} {w : qWp} {cc : ByteArray} {nL dp n0 n1 pc : Nat} (h : qOk C w RX11 cc nL dp n0 n1) (d : decode cc pc = .ok (.invokevirtual 347, 3)) : qCallOk C w nL dp n0 n1 pc 2 1 yX1_lastStop (.code yX1_lastStop cX1_lastStop 4 (some .int)) := kindV h d ml_X11_347 im_X1_lastStop se_X1_lastStop in_ParentEve_Evening co_X1_lastStop yk_X1_lastStop (by decide)
theorem im_X2_size : Jvm.Cond.instanceMethod yX2_size ∈ qTw := qm6 (List.mem_of_getElem? (i := 142) (by decide +kernel)) (by decide +kernel)
theorem se_X2_size : Jvm.Cond.selects yX2_size.cls yX2_size yX2_size ∈ qTw := qm6 (List.mem_of_getElem? (i := 143) (by decide +kernel)) (by decide +kernel)
theorem co_X2_size : Jvm.Cond.code yX2_size cX2_size 1 (some .int) ∈ qTw := qm6 (List.mem_of_getElem? (i := 144) (by decide +kernel)) (by decide +kernel)
theorem yk_X2_size : qYk yX2_size 0 := ⟨⟨by decide +kernel, by decide +kernel⟩, by decide +kernel⟩
theorem ml_X11_350 : Jvm.Cond.methodLink RX11 350 yX2_size ∈ qTw := qm6 (List.mem_of_getElem? (i := 141) (by decide +kernel)) (by decide +kernel)
theorem kd_X11_350 {C : qCx} {w : qWp} {cc : ByteArray} {nL dp n0 n1 pc : Nat} (h : qOk C w RX11 cc nL dp n0 n1) (d : decode cc pc = .ok (.invokevirtual 350, 3)) : qCallOk C w nL dp n0 n1 pc 1 1 yX2_size (.code yX2_size cX2_size 1 (some .int)) := kindV h d ml_X11_350 im_X2_size se_X2_size in_ParentEve_Notes co_X2_size yk_X2_size (by decide)
theorem im_X10_linesOf : Jvm.Cond.instanceMethod yX10_linesOf ∈ qTw := qm6 (List.mem_of_getElem? (i := 146) (by decide +kernel)) (by decide +kernel)
theorem se_X10_linesOf : Jvm.Cond.selects yX10_linesOf.cls yX10_linesOf yX10_linesOf ∈ qTw := qm6 (List.mem_of_getElem? (i := 147) (by decide +kernel)) (by decide +kernel)
theorem co_X10_linesOf : Jvm.Cond.code yX10_linesOf cX10_linesOf 2 (some .int) ∈ qTw := qm6 (List.mem_of_getElem? (i := 148) (by decide +kernel)) (by decide +kernel)
theorem yk_X10_linesOf : qYk yX10_linesOf 1 := ⟨⟨by decide +kernel, by decide +kernel⟩, by decide +kernel⟩
theorem ml_X11_351 : Jvm.Cond.methodLink RX11 351 yX10_linesOf ∈ qTw := qm6 (List.mem_of_getElem? (i := 145) (by decide +kernel)) (by decide +kernel)
theorem kd_X11_351 {C : qCx} {w : qWp} {cc : ByteArray} {nL dp n0 n1 pc : Nat} (h : qOk C w RX11 cc nL dp n0 n1) (d : decode cc pc = .ok (.invokevirtual 351, 3)) : qCallOk C w nL dp n0 n1 pc 2 1 yX10_linesOf (.code yX10_linesOf cX10_linesOf 2 (some .int)) := kindV h d ml_X11_351 im_X10_linesOf se_X10_linesOf in_ParentEve_Ways co_X10_linesOf yk_X10_linesOf (by decide)
theorem dX11_count_0 : decode cX11_count 0 = .ok (.aload_n 0, 1) := by decide +kernel
theorem dX11_count_1 : decode cX11_count 1 = .ok (.getfield 91, 3) := by decide +kernel
theorem dX11_count_4 : decode cX11_count 4 = .ok (.ifCond .eq 27, 3) := by decide +kernel
theorem dX11_count_7 : decode cX11_count 7 = .ok (.iload_n 1, 1) := by decide +kernel
theorem dX11_count_8 : decode cX11_count 8 = .ok (.iconst 5, 1) := by decide +kernel
theorem dX11_count_9 : decode cX11_count 9 = .ok (.bipush 6, 2) := by decide +kernel
theorem dX11_count_11 : decode cX11_count 11 = .ok (.invokestatic 103, 3) := by decide +kernel
theorem dX11_count_14 : decode cX11_count 14 = .ok (.ifCond .eq 17, 3) := by decide +kernel
theorem dX11_count_17 : decode cX11_count 17 = .ok (.aload_n 0, 1) := by decide +kernel
theorem dX11_count_18 : decode cX11_count 18 = .ok (.getfield 78, 3) := by decide +kernel
theorem dX11_count_21 : decode cX11_count 21 = .ok (.aload_n 0, 1) := by decide +kernel
theorem dX11_count_22 : decode cX11_count 22 = .ok (.getfield 69, 3) := by decide +kernel
theorem dX11_count_25 : decode cX11_count 25 = .ok (.invokevirtual 302, 3) := by decide +kernel
theorem dX11_count_28 : decode cX11_count 28 = .ok (.invokevirtual 293, 3) := by decide +kernel
theorem dX11_count_31 : decode cX11_count 31 = .ok (.iload_n 1, 1) := by decide +kernel
theorem dX11_count_32 : decode cX11_count 32 = .ok (.tableswitch 173 0 8 #[52, 60, 68, 84, 97, 105, 131, 157, 165], 52) := by decide +kernel
theorem dX11_count_84 : decode cX11_count 84 = .ok (.aload_n 0, 1) := by decide +kernel
theorem dX11_count_85 : decode cX11_count 85 = .ok (.getfield 53, 3) := by decide +kernel
theorem dX11_count_88 : decode cX11_count 88 = .ok (.invokevirtual 189, 3) := by decide +kernel
theorem dX11_count_91 : decode cX11_count 91 = .ok (.ireturn, 1) := by decide +kernel
theorem dX11_count_92 : decode cX11_count 92 = .ok (.aload_n 0, 1) := by decide +kernel
theorem dX11_count_93 : decode cX11_count 93 = .ok (.getfield 53, 3) := by decide +kernel
theorem dX11_count_96 : decode cX11_count 96 = .ok (.invokevirtual 262, 3) := by decide +kernel
theorem dX11_count_99 : decode cX11_count 99 = .ok (.ireturn, 1) := by decide +kernel
theorem dX11_count_100 : decode cX11_count 100 = .ok (.aload_n 0, 1) := by decide +kernel
theorem dX11_count_101 : decode cX11_count 101 = .ok (.getfield 53, 3) := by decide +kernel
theorem dX11_count_104 : decode cX11_count 104 = .ok (.invokevirtual 344, 3) := by decide +kernel
theorem dX11_count_107 : decode cX11_count 107 = .ok (.aload_n 0, 1) := by decide +kernel
theorem dX11_count_108 : decode cX11_count 108 = .ok (.getfield 53, 3) := by decide +kernel
theorem dX11_count_111 : decode cX11_count 111 = .ok (.invokevirtual 259, 3) := by decide +kernel
theorem dX11_count_114 : decode cX11_count 114 = .ok (.isub, 1) := by decide +kernel
theorem dX11_count_115 : decode cX11_count 115 = .ok (.ireturn, 1) := by decide +kernel
theorem dX11_count_116 : decode cX11_count 116 = .ok (.aload_n 0, 1) := by decide +kernel
theorem dX11_count_117 : decode cX11_count 117 = .ok (.getfield 91, 3) := by decide +kernel
theorem dX11_count_120 : decode cX11_count 120 = .ok (.ifCond .eq 7, 3) := by decide +kernel
theorem dX11_count_123 : decode cX11_count 123 = .ok (.iconst 1, 1) := by decide +kernel
theorem dX11_count_124 : decode cX11_count 124 = .ok (.goto 4, 3) := by decide +kernel
theorem dX11_count_127 : decode cX11_count 127 = .ok (.iconst 0, 1) := by decide +kernel
theorem dX11_count_128 : decode cX11_count 128 = .ok (.ireturn, 1) := by decide +kernel
theorem dX11_count_129 : decode cX11_count 129 = .ok (.aload_n 0, 1) := by decide +kernel
theorem dX11_count_130 : decode cX11_count 130 = .ok (.getfield 69, 3) := by decide +kernel
theorem dX11_count_133 : decode cX11_count 133 = .ok (.invokevirtual 302, 3) := by decide +kernel
theorem dX11_count_136 : decode cX11_count 136 = .ok (.ireturn, 1) := by decide +kernel
theorem dX11_count_137 : decode cX11_count 137 = .ok (.aload_n 0, 1) := by decide +kernel
theorem dX11_count_138 : decode cX11_count 138 = .ok (.getfield 91, 3) := by decide +kernel
theorem dX11_count_141 : decode cX11_count 141 = .ok (.ifCond .eq 20, 3) := by decide +kernel
theorem dX11_count_144 : decode cX11_count 144 = .ok (.aload_n 0, 1) := by decide +kernel
theorem dX11_count_145 : decode cX11_count 145 = .ok (.getfield 78, 3) := by decide +kernel
theorem dX11_count_148 : decode cX11_count 148 = .ok (.aload_n 0, 1) := by decide +kernel
theorem dX11_count_149 : decode cX11_count 149 = .ok (.getfield 69, 3) := by decide +kernel
theorem dX11_count_152 : decode cX11_count 152 = .ok (.invokevirtual 302, 3) := by decide +kernel
theorem dX11_count_155 : decode cX11_count 155 = .ok (.invokevirtual 316, 3) := by decide +kernel
theorem dX11_count_158 : decode cX11_count 158 = .ok (.goto 4, 3) := by decide +kernel
theorem dX11_count_161 : decode cX11_count 161 = .ok (.iconst 0, 1) := by decide +kernel
theorem dX11_count_162 : decode cX11_count 162 = .ok (.ireturn, 1) := by decide +kernel
theorem dX11_count_163 : decode cX11_count 163 = .ok (.aload_n 0, 1) := by decide +kernel
theorem dX11_count_164 : decode cX11_count 164 = .ok (.getfield 91, 3) := by decide +kernel
theorem dX11_count_167 : decode cX11_count 167 = .ok (.ifCond .eq 20, 3) := by decide +kernel
theorem dX11_count_170 : decode cX11_count 170 = .ok (.aload_n 0, 1) := by decide +kernel
theorem dX11_count_171 : decode cX11_count 171 = .ok (.getfield 78, 3) := by decide +kernel
theorem dX11_count_174 : decode cX11_count 174 = .ok (.aload_n 0, 1) := by decide +kernel
theorem dX11_count_175 : decode cX11_count 175 = .ok (.getfield 69, 3) := by decide +kernel
theorem dX11_count_178 : decode cX11_count 178 = .ok (.invokevirtual 302, 3) := by decide +kernel
theorem dX11_count_181 : decode cX11_count 181 = .ok (.invokevirtual 347, 3) := by decide +kernel
theorem dX11_count_184 : decode cX11_count 184 = .ok (.goto 4, 3) := by decide +kernel
theorem dX11_count_187 : decode cX11_count 187 = .ok (.iconst 0, 1) := by decide +kernel
theorem dX11_count_188 : decode cX11_count 188 = .ok (.ireturn, 1) := by decide +kernel
theorem dX11_count_189 : decode cX11_count 189 = .ok (.aload_n 0, 1) := by decide +kernel
theorem dX11_count_190 : decode cX11_count 190 = .ok (.getfield 12, 3) := by decide +kernel
theorem dX11_count_193 : decode cX11_count 193 = .ok (.invokevirtual 95, 3) := by decide +kernel
theorem dX11_count_196 : decode cX11_count 196 = .ok (.ireturn, 1) := by decide +kernel
theorem dX11_count_197 : decode cX11_count 197 = .ok (.aload_n 0, 1) := by decide +kernel
theorem dX11_count_198 : decode cX11_count 198 = .ok (.getfield 87, 3) := by decide +kernel
theorem dX11_count_201 : decode cX11_count 201 = .ok (.invokevirtual 350, 3) := by decide +kernel
theorem dX11_count_204 : decode cX11_count 204 = .ok (.ireturn, 1) := by decide +kernel
theorem dX11_count_205 : decode cX11_count 205 = .ok (.iload_n 1, 1) := by decide +kernel
theorem dX11_count_206 : decode cX11_count 206 = .ok (.bipush 10, 2) := by decide +kernel
theorem dX11_count_208 : decode cX11_count 208 = .ok (.if_icmp .lt 27, 3) := by decide +kernel
theorem dX11_count_211 : decode cX11_count 211 = .ok (.iload_n 1, 1) := by decide +kernel
theorem dX11_count_212 : decode cX11_count 212 = .ok (.bipush 10, 2) := by decide +kernel
theorem dX11_count_214 : decode cX11_count 214 = .ok (.isub, 1) := by decide +kernel
theorem dX11_count_215 : decode cX11_count 215 = .ok (.invokestatic 125, 3) := by decide +kernel
theorem dX11_count_218 : decode cX11_count 218 = .ok (.ifCond .eq 17, 3) := by decide +kernel
theorem dX11_count_221 : decode cX11_count 221 = .ok (.aload_n 0, 1) := by decide +kernel
theorem dX11_count_222 : decode cX11_count 222 = .ok (.getfield 35, 3) := by decide +kernel
theorem dX11_count_225 : decode cX11_count 225 = .ok (.iload_n 1, 1) := by decide +kernel
theorem dX11_count_226 : decode cX11_count 226 = .ok (.bipush 10, 2) := by decide +kernel
theorem dX11_count_228 : decode cX11_count 228 = .ok (.isub, 1) := by decide +kernel
theorem dX11_count_229 : decode cX11_count 229 = .ok (.invokevirtual 351, 3) := by decide +kernel
theorem dX11_count_232 : decode cX11_count 232 = .ok (.goto 4, 3) := by decide +kernel
theorem dX11_count_235 : decode cX11_count 235 = .ok (.iconst (-1), 1) := by decide +kernel
theorem dX11_count_236 : decode cX11_count 236 = .ok (.ireturn, 1) := by decide +kernel
noncomputable def tX11_count_38 : qT (Int32 × qM) :=
  eI
noncomputable def wX11_count_38 (k : Int32 → qM → Option (Int32 × qM)) : qT (Int32 × qM) := fun lo st m => match lo, st with
  | [_, _], [.int s0] => k s0 m
  | _, _ => none
set_option maxRecDepth 20000 in
theorem sX11_count_38 {C : qCx} {w : qWp} (h : qOk C w RX11 cX11_count 2 6 155 155) (hm : qMt C (some .int)) (hx : qNx C) : qSnd C w 2 155 (qQf C w 155 155 jI) qfin 155 128 (tX11_count_38) :=
  zI (pc := 128) h hm (Nat.le_refl _) dX11_count_128
set_option maxRecDepth 20000 in
theorem lX11_count_38 (s0 : Int32) (m : qM) : tX11_count_38 [none, none] [(.int s0)] m = fX11_count_38 s0 m := rfl
theorem bX11_count_38 {C : qCx} {w : qWp} (h : qOk C w RX11 cX11_count 2 6 155 155) (hm : qMt C (some .int)) (hx : qNx C) : qSnd C w 2 155 (qQf C w 155 155 jI) qfin 155 128 (wX11_count_38 fX11_count_38) :=
  qSnd_of (fun lo st m x hr0 => by
    unfold wX11_count_38 at hr0
    split at hr0
    · exact ⟨_, (qsub_n (qsub_n qsub_nil)), (lX11_count_38 _ _).trans hr0⟩
    · cases hr0) (sX11_count_38 h hm hx)
noncomputable def tX11_count_54 : qT (Int32 × qM) :=
  eI
noncomputable def wX11_count_54 (k : Int32 → qM → Option (Int32 × qM)) : qT (Int32 × qM) := fun lo st m => match lo, st with
  | [_, _], [.int s0] => k s0 m
  | _, _ => none
set_option maxRecDepth 20000 in
theorem sX11_count_54 {C : qCx} {w : qWp} (h : qOk C w RX11 cX11_count 2 6 155 155) (hm : qMt C (some .int)) (hx : qNx C) : qSnd C w 2 155 (qQf C w 155 155 jI) qfin 155 162 (tX11_count_54) :=
  zI (pc := 162) h hm (Nat.le_refl _) dX11_count_162
set_option maxRecDepth 20000 in
theorem lX11_count_54 (s0 : Int32) (m : qM) : tX11_count_54 [none, none] [(.int s0)] m = fX11_count_54 s0 m := rfl
theorem bX11_count_54 {C : qCx} {w : qWp} (h : qOk C w RX11 cX11_count 2 6 155 155) (hm : qMt C (some .int)) (hx : qNx C) : qSnd C w 2 155 (qQf C w 155 155 jI) qfin 155 162 (wX11_count_54 fX11_count_54) :=
  qSnd_of (fun lo st m x hr0 => by
    unfold wX11_count_54 at hr0
    split at hr0
    · exact ⟨_, (qsub_n (qsub_n qsub_nil)), (lX11_count_54 _ _).trans hr0⟩
    · cases hr0) (sX11_count_54 h hm hx)
noncomputable def tX11_count_66 : qT (Int32 × qM) :=
  eI
noncomputable def wX11_count_66 (k : Int32 → qM → Option (Int32 × qM)) : qT (Int32 × qM) := fun lo st m => match lo, st with
  | [_, _], [.int s0] => k s0 m
  | _, _ => none
set_option maxRecDepth 20000 in
theorem sX11_count_66 {C : qCx} {w : qWp} (h : qOk C w RX11 cX11_count 2 6 155 155) (hm : qMt C (some .int)) (hx : qNx C) : qSnd C w 2 155 (qQf C w 155 155 jI) qfin 155 188 (tX11_count_66) :=
  zI (pc := 188) h hm (Nat.le_refl _) dX11_count_188
set_option maxRecDepth 20000 in
theorem lX11_count_66 (s0 : Int32) (m : qM) : tX11_count_66 [none, none] [(.int s0)] m = fX11_count_66 s0 m := rfl
theorem bX11_count_66 {C : qCx} {w : qWp} (h : qOk C w RX11 cX11_count 2 6 155 155) (hm : qMt C (some .int)) (hx : qNx C) : qSnd C w 2 155 (qQf C w 155 155 jI) qfin 155 188 (wX11_count_66 fX11_count_66) :=
  qSnd_of (fun lo st m x hr0 => by
    unfold wX11_count_66 at hr0
    split at hr0
    · exact ⟨_, (qsub_n (qsub_n qsub_nil)), (lX11_count_66 _ _).trans hr0⟩
    · cases hr0) (sX11_count_66 h hm hx)
noncomputable def tX11_count_91 : qT (Int32 × qM) :=
  eI
noncomputable def wX11_count_91 (k : Int32 → qM → Option (Int32 × qM)) : qT (Int32 × qM) := fun lo st m => match lo, st with
  | [_, _], [.int s0] => k s0 m
  | _, _ => none
set_option maxRecDepth 20000 in
theorem sX11_count_91 {C : qCx} {w : qWp} (h : qOk C w RX11 cX11_count 2 6 155 155) (hm : qMt C (some .int)) (hx : qNx C) : qSnd C w 2 155 (qQf C w 155 155 jI) qfin 155 236 (tX11_count_91) :=
  zI (pc := 236) h hm (Nat.le_refl _) dX11_count_236
set_option maxRecDepth 20000 in
theorem lX11_count_91 (s0 : Int32) (m : qM) : tX11_count_91 [none, none] [(.int s0)] m = fX11_count_91 s0 m := rfl
theorem bX11_count_91 {C : qCx} {w : qWp} (h : qOk C w RX11 cX11_count 2 6 155 155) (hm : qMt C (some .int)) (hx : qNx C) : qSnd C w 2 155 (qQf C w 155 155 jI) qfin 155 236 (wX11_count_91 fX11_count_91) :=
  qSnd_of (fun lo st m x hr0 => by
    unfold wX11_count_91 at hr0
    split at hr0
    · exact ⟨_, (qsub_n (qsub_n qsub_nil)), (lX11_count_91 _ _).trans hr0⟩
    · cases hr0) (sX11_count_91 h hm hx)
noncomputable def tX11_count_90 (j91 : qT (Int32 × qM)) : qT (Int32 × qM) :=
  oC (.int (-1 : Int32)) (j91)
noncomputable def wX11_count_90 (k : qM → Option (Int32 × qM)) : qT (Int32 × qM) := fun lo st m => match lo, st with
  | [_, _], [] => k m
  | _, _ => none
set_option maxRecDepth 20000 in
theorem sX11_count_90 {C : qCx} {w : qWp} (h : qOk C w RX11 cX11_count 2 6 155 155) (hm : qMt C (some .int)) (hx : qNx C) {j91 : qT (Int32 × qM)} (k91 : qSnd C w 2 155 (qQf C w 155 155 jI) qfin 155 236 j91) : qSnd C w 2 155 (qQf C w 155 155 jI) qfin 155 235 (tX11_count_90 j91) :=
  cC (pc := 235) h dX11_count_235 rfl (k91)
set_option maxRecDepth 20000 in
theorem lX11_count_90 (m : qM) : tX11_count_90 (wX11_count_91 fX11_count_91) [none, none] [] m = fX11_count_90 m := rfl
theorem bX11_count_90 {C : qCx} {w : qWp} (h : qOk C w RX11 cX11_count 2 6 155 155) (hm : qMt C (some .int)) (hx : qNx C) : qSnd C w 2 155 (qQf C w 155 155 jI) qfin 155 235 (wX11_count_90 fX11_count_90) :=
  qSnd_of (fun lo st m x hr0 => by
    unfold wX11_count_90 at hr0
    split at hr0
    · exact ⟨_, (qsub_n (qsub_n qsub_nil)), (lX11_count_90 _).trans hr0⟩
    · cases hr0) (sX11_count_90 h hm hx (bX11_count_91 h hm hx))
noncomputable def tX11_count_14 (j38 : qT (Int32 × qM)) (j54 : qT (Int32 × qM)) (j66 : qT (Int32 × qM)) (j90 : qT (Int32 × qM)) (j91 : qT (Int32 × qM)) : qT (Int32 × qM) :=
  oLi 1 (oSw (0 : Int32) (oLi 1 (oC (.int (10 : Int32)) (oCLt (j90) (oLi 1 (oC (.int (10 : Int32)) (o2 (· - ·) (oCi GX11_isPolicy 1 (oEq (j90) (oLa 0 (oGf 0 3 7 (oLi 1 (oC (.int (10 : Int32)) (o2 (· - ·) (oCi GX10_linesOf 2 (j91))))))))))))))) [oLa 0 (oGf 0 5 58 (oCi GX4_asks 1 (eI))), oLa 0 (oGf 0 5 58 (oCi GX4_laid 1 (eI))), oLa 0 (oGf 0 5 58 (oCi GX4_musts 1 (oLa 0 (oGf 0 5 58 (oCi GX4_mustsLaid 1 (o2 (· - ·) (eI))))))), oLa 0 (oGi 0 10 (oEq (oC (.int (0 : Int32)) (j38)) (oC (.int (1 : Int32)) (j38)))), oLa 0 (oGf 0 7 74 (oCi GX9_size 1 (eI))), oLa 0 (oGi 0 10 (oEq (oC (.int (0 : Int32)) (j54)) (oLa 0 (oGf 0 8 80 (oLa 0 (oGf 0 7 74 (oCi GX9_size 1 (oCi GX1_missed 2 (j54))))))))), oLa 0 (oGi 0 10 (oEq (oC (.int (0 : Int32)) (j66)) (oLa 0 (oGf 0 8 80 (oLa 0 (oGf 0 7 74 (oCi GX9_size 1 (oCi GX1_lastStop 2 (j66))))))))), oLa 0 (oGf 0 0 1 (oCi GX8_size 1 (eI))), oLa 0 (oGf 0 9 93 (oCi GX2_size 1 (eI)))])
noncomputable def wX11_count_14 (k : Int32 → qM → Option (Int32 × qM)) : qT (Int32 × qM) := fun lo st m => match lo, st with
  | [some (.ref 0), some (.int a1)], [] => k a1 m
  | _, _ => none
set_option maxRecDepth 20000 in
theorem sX11_count_14 {C : qCx} {w : qWp} (h : qOk C w RX11 cX11_count 2 6 155 155) (hm : qMt C (some .int)) (hx : qNx C) {j38 : qT (Int32 × qM)} {j54 : qT (Int32 × qM)} {j66 : qT (Int32 × qM)} {j90 : qT (Int32 × qM)} {j91 : qT (Int32 × qM)} (k38 : qSnd C w 2 155 (qQf C w 155 155 jI) qfin 155 128 j38) (k54 : qSnd C w 2 155 (qQf C w 155 155 jI) qfin 155 162 j54) (k66 : qSnd C w 2 155 (qQf C w 155 155 jI) qfin 155 188 j66) (k90 : qSnd C w 2 155 (qQf C w 155 155 jI) qfin 155 235 j90) (k91 : qSnd C w 2 155 (qQf C w 155 155 jI) qfin 155 236 j91) : qSnd C w 2 155 (qQf C w 155 155 jI) qfin 155 31 (tX11_count_14 j38 j54 j66 j90 j91) :=
  cLi (pc := 31) h dX11_count_31 rfl (jSw (pc := 32) (a := 0) h dX11_count_32 rfl rfl rfl (by decide) rfl (cLi (pc := 205) h dX11_count_205 rfl (cB (pc := 206) h dX11_count_206 rfl (jCLt (pc := 208) h dX11_count_208 rfl (k90) (cLi (pc := 211) h dX11_count_211 rfl (cB (pc := 212) h dX11_count_212 rfl (aSub (pc := 214) h dX11_count_214 (kCi (pc := 215) h (kd_X11_125 h dX11_count_215) spX11_isPolicy (by decide) (by decide) (by decide) (by decide) (jEq (pc := 218) h dX11_count_218 rfl (k90) (cLa (pc := 221) h dX11_count_221 rfl (gGf (pc := 222) h dX11_count_222 ff_X11_35_0 (Nat.le_of_ble_eq_true rfl) (Nat.le_of_ble_eq_true rfl) rfl (cLi (pc := 225) h dX11_count_225 rfl (cB (pc := 226) h dX11_count_226 rfl (aSub (pc := 228) h dX11_count_228 (kCi (pc := 229) h (kd_X11_351 h dX11_count_229) spX10_linesOf (by decide) (by decide) (by decide) (by decide) (jGo (pc := 232) h dX11_count_232 rfl (k91)))))))))))))))) ⟨⟨_, rfl, cLa (pc := 84) h dX11_count_84 rfl (gGf (pc := 85) h dX11_count_85 ff_X11_53_0 (Nat.le_of_ble_eq_true rfl) (Nat.le_of_ble_eq_true rfl) rfl (kCi (pc := 88) h (kd_X11_189 h dX11_count_88) spX4_asks (by decide) (by decide) (by decide) (by decide) (zI (pc := 91) h hm (Nat.le_refl _) dX11_count_91)))⟩, ⟨⟨_, rfl, cLa (pc := 92) h dX11_count_92 rfl (gGf (pc := 93) h dX11_count_93 ff_X11_53_0 (Nat.le_of_ble_eq_true rfl) (Nat.le_of_ble_eq_true rfl) rfl (kCi (pc := 96) h (kd_X11_262 h dX11_count_96) spX4_laid (by decide) (by decide) (by decide) (by decide) (zI (pc := 99) h hm (Nat.le_refl _) dX11_count_99)))⟩, ⟨⟨_, rfl, cLa (pc := 100) h dX11_count_100 rfl (gGf (pc := 101) h dX11_count_101 ff_X11_53_0 (Nat.le_of_ble_eq_true rfl) (Nat.le_of_ble_eq_true rfl) rfl (kCi (pc := 104) h (kd_X11_344 h dX11_count_104) spX4_musts (by decide) (by decide) (by decide) (by decide) (cLa (pc := 107) h dX11_count_107 rfl (gGf (pc := 108) h dX11_count_108 ff_X11_53_0 (Nat.le_of_ble_eq_true rfl) (Nat.le_of_ble_eq_true rfl) rfl (kCi (pc := 111) h (kd_X11_259 h dX11_count_111) spX4_mustsLaid (by decide) (by decide) (by decide) (by decide) (aSub (pc := 114) h dX11_count_114 (zI (pc := 115) h hm (Nat.le_refl _) dX11_count_115)))))))⟩, ⟨⟨_, rfl, cLa (pc := 116) h dX11_count_116 rfl (gGz (pc := 117) h dX11_count_117 ff_X11_91_0 (Nat.le_of_ble_eq_true rfl) (Nat.le_of_ble_eq_true rfl) (jEq (pc := 120) h dX11_count_120 rfl (cC (pc := 127) h dX11_count_127 rfl (k38)) (cC (pc := 123) h dX11_count_123 rfl (jGo (pc := 124) h dX11_count_124 rfl (k38)))))⟩, ⟨⟨_, rfl, cLa (pc := 129) h dX11_count_129 rfl (gGf (pc := 130) h dX11_count_130 ff_X11_69_0 (Nat.le_of_ble_eq_true rfl) (Nat.le_of_ble_eq_true rfl) rfl (kCi (pc := 133) h (kd_X11_302 h dX11_count_133) spX9_size (by decide) (by decide) (by decide) (by decide) (zI (pc := 136) h hm (Nat.le_refl _) dX11_count_136)))⟩, ⟨⟨_, rfl, cLa (pc := 137) h dX11_count_137 rfl (gGz (pc := 138) h dX11_count_138 ff_X11_91_0 (Nat.le_of_ble_eq_true rfl) (Nat.le_of_ble_eq_true rfl) (jEq (pc := 141) h dX11_count_141 rfl (cC (pc := 161) h dX11_count_161 rfl (k54)) (cLa (pc := 144) h dX11_count_144 rfl (gGf (pc := 145) h dX11_count_145 ff_X11_78_0 (Nat.le_of_ble_eq_true rfl) (Nat.le_of_ble_eq_true rfl) rfl (cLa (pc := 148) h dX11_count_148 rfl (gGf (pc := 149) h dX11_count_149 ff_X11_69_0 (Nat.le_of_ble_eq_true rfl) (Nat.le_of_ble_eq_true rfl) rfl (kCi (pc := 152) h (kd_X11_302 h dX11_count_152) spX9_size (by decide) (by decide) (by decide) (by decide) (kCi (pc := 155) h (kd_X11_316 h dX11_count_155) spX1_missed (by decide) (by decide) (by decide) (by decide) (jGo (pc := 158) h dX11_count_158 rfl (k54))))))))))⟩, ⟨⟨_, rfl, cLa (pc := 163) h dX11_count_163 rfl (gGz (pc := 164) h dX11_count_164 ff_X11_91_0 (Nat.le_of_ble_eq_true rfl) (Nat.le_of_ble_eq_true rfl) (jEq (pc := 167) h dX11_count_167 rfl (cC (pc := 187) h dX11_count_187 rfl (k66)) (cLa (pc := 170) h dX11_count_170 rfl (gGf (pc := 171) h dX11_count_171 ff_X11_78_0 (Nat.le_of_ble_eq_true rfl) (Nat.le_of_ble_eq_true rfl) rfl (cLa (pc := 174) h dX11_count_174 rfl (gGf (pc := 175) h dX11_count_175 ff_X11_69_0 (Nat.le_of_ble_eq_true rfl) (Nat.le_of_ble_eq_true rfl) rfl (kCi (pc := 178) h (kd_X11_302 h dX11_count_178) spX9_size (by decide) (by decide) (by decide) (by decide) (kCi (pc := 181) h (kd_X11_347 h dX11_count_181) spX1_lastStop (by decide) (by decide) (by decide) (by decide) (jGo (pc := 184) h dX11_count_184 rfl (k66))))))))))⟩, ⟨⟨_, rfl, cLa (pc := 189) h dX11_count_189 rfl (gGf (pc := 190) h dX11_count_190 ff_X11_12_0 (Nat.le_of_ble_eq_true rfl) (Nat.le_of_ble_eq_true rfl) rfl (kCi (pc := 193) h (kd_X11_95 h dX11_count_193) spX8_size (by decide) (by decide) (by decide) (by decide) (zI (pc := 196) h hm (Nat.le_refl _) dX11_count_196)))⟩, ⟨⟨_, rfl, cLa (pc := 197) h dX11_count_197 rfl (gGf (pc := 198) h dX11_count_198 ff_X11_87_0 (Nat.le_of_ble_eq_true rfl) (Nat.le_of_ble_eq_true rfl) rfl (kCi (pc := 201) h (kd_X11_350 h dX11_count_201) spX2_size (by decide) (by decide) (by decide) (by decide) (zI (pc := 204) h hm (Nat.le_refl _) dX11_count_204)))⟩, trivial⟩⟩⟩⟩⟩⟩⟩⟩⟩)
set_option maxRecDepth 20000 in
theorem lX11_count_14 (a1 : Int32) (m : qM) : tX11_count_14 (wX11_count_38 fX11_count_38) (wX11_count_54 fX11_count_54) (wX11_count_66 fX11_count_66) (wX11_count_90 fX11_count_90) (wX11_count_91 fX11_count_91) [some (.ref 0), some (.int a1)] [] m = fX11_count_14 a1 m := rfl
theorem bX11_count_14 {C : qCx} {w : qWp} (h : qOk C w RX11 cX11_count 2 6 155 155) (hm : qMt C (some .int)) (hx : qNx C) : qSnd C w 2 155 (qQf C w 155 155 jI) qfin 155 31 (wX11_count_14 fX11_count_14) :=
  qSnd_of (fun lo st m x hr0 => by
    unfold wX11_count_14 at hr0
    split at hr0
    · exact ⟨_, (qsub_e (qsub_e qsub_nil)), (lX11_count_14 _ _).trans hr0⟩
    · cases hr0) (sX11_count_14 h hm hx (bX11_count_38 h hm hx) (bX11_count_54 h hm hx) (bX11_count_66 h hm hx) (bX11_count_90 h hm hx) (bX11_count_91 h hm hx))
noncomputable def tX11_count_0 (j14 : qT (Int32 × qM)) : qT (Int32 × qM) :=
  oLa 0 (oGi 0 10 (oEq (j14) (oLi 1 (oC (.int (5 : Int32)) (oC (.int (6 : Int32)) (oCi GX11_within 3 (oEq (j14) (oLa 0 (oGf 0 8 80 (oLa 0 (oGf 0 7 74 (oCi GX9_size 1 (oCv GX1_makeReady 2 (j14))))))))))))))
set_option maxRecDepth 20000 in
theorem sX11_count_0 {C : qCx} {w : qWp} (h : qOk C w RX11 cX11_count 2 6 155 155) (hm : qMt C (some .int)) (hx : qNx C) {j14 : qT (Int32 × qM)} (k14 : qSnd C w 2 155 (qQf C w 155 155 jI) qfin 155 31 j14) : qSnd C w 2 155 (qQf C w 155 155 jI) qfin 155 0 (tX11_count_0 j14) :=
  cLa (pc := 0) h dX11_count_0 rfl (gGz (pc := 1) h dX11_count_1 ff_X11_91_0 (Nat.le_of_ble_eq_true rfl) (Nat.le_of_ble_eq_true rfl) (jEq (pc := 4) h dX11_count_4 rfl (k14) (cLi (pc := 7) h dX11_count_7 rfl (cC (pc := 8) h dX11_count_8 rfl (cB (pc := 9) h dX11_count_9 rfl (kCi (pc := 11) h (kd_X11_103 h dX11_count_11) spX11_within (by decide) (by decide) (by decide) (by decide) (jEq (pc := 14) h dX11_count_14 rfl (k14) (cLa (pc := 17) h dX11_count_17 rfl (gGf (pc := 18) h dX11_count_18 ff_X11_78_0 (Nat.le_of_ble_eq_true rfl) (Nat.le_of_ble_eq_true rfl) rfl (cLa (pc := 21) h dX11_count_21 rfl (gGf (pc := 22) h dX11_count_22 ff_X11_69_0 (Nat.le_of_ble_eq_true rfl) (Nat.le_of_ble_eq_true rfl) rfl (kCi (pc := 25) h (kd_X11_302 h dX11_count_25) spX9_size (by decide) (by decide) (by decide) (by decide) (kCv (pc := 28) h (kd_X11_293 h dX11_count_28) spX1_makeReady (by decide) (by decide) (by decide) (by decide) (k14))))))))))))))
set_option maxRecDepth 20000 in
theorem lX11_count_0 (a1 : Int32) (m : qM) : tX11_count_0 (wX11_count_14 fX11_count_14) [some (.ref 0), some (.int a1)] [] m = fX11_count_0 a1 m := rfl
noncomputable def GX11_count : qG Int32 := fun av m => match av with
  | [.ref 0, .int a1] => fX11_count a1 m
  | _ => none
theorem spX11_count : qSpI yX11_count (.code yX11_count cX11_count 2 (some .int)) 6 qfin 155 155 1 GX11_count := by
  intro av m x m' hG
  unfold GX11_count at hG
  split at hG
  · rename_i a1
    rw [fX11_count_d] at hG
    exact ⟨qmeet (J := jI) (r := (x, m')) (av := [.ref 0, .int a1]) (by decide +kernel) (Nat.le_of_ble_eq_true rfl) (fun C w h hm hx hn => sX11_count_0 h hm hx (bX11_count_14 h hm hx)) ((lX11_count_0 _ _).trans hG) (Nat.le_of_ble_eq_true rfl), Or.inl ⟨0, _, 11, _, _, rfl, by decide, rfl, qCk_11, rfl⟩⟩
  · cases hG
theorem dX13_in_0 : decode cX13_in 0 = .ok (.lload_n 0, 1) := by decide +kernel
theorem dX13_in_1 : decode cX13_in 1 = .ok (.lload_n 2, 1) := by decide +kernel
theorem dX13_in_2 : decode cX13_in 2 = .ok (.lcmp, 1) := by decide +kernel
theorem dX13_in_3 : decode cX13_in 3 = .ok (.ifCond .lt 14, 3) := by decide +kernel
theorem dX13_in_6 : decode cX13_in 6 = .ok (.lload_n 0, 1) := by decide +kernel
theorem dX13_in_7 : decode cX13_in 7 = .ok (.lload 4, 2) := by decide +kernel
theorem dX13_in_9 : decode cX13_in 9 = .ok (.lcmp, 1) := by decide +kernel
theorem dX13_in_10 : decode cX13_in 10 = .ok (.ifCond .gt 7, 3) := by decide +kernel
theorem dX13_in_13 : decode cX13_in 13 = .ok (.iconst 1, 1) := by decide +kernel
theorem dX13_in_14 : decode cX13_in 14 = .ok (.goto 4, 3) := by decide +kernel
theorem dX13_in_17 : decode cX13_in 17 = .ok (.iconst 0, 1) := by decide +kernel
theorem dX13_in_18 : decode cX13_in 18 = .ok (.ireturn, 1) := by decide +kernel
noncomputable def tX13_in_11 : qT (Int32 × qM) :=
  eZ
noncomputable def wX13_in_11 (k : Int32 → qM → Option (Int32 × qM)) : qT (Int32 × qM) := fun lo st m => match lo, st with
  | [_, _, _, _, _, _], [.int s0] => k s0 m
  | _, _ => none
set_option maxRecDepth 20000 in
theorem sX13_in_11 {C : qCx} {w : qWp} (h : qOk C w RX13 cX13_in 6 0 155 155) (hm : qMt C (some .boolean)) (hx : qNx C) : qSnd C w 6 155 (qQf C w 155 155 jI) qfin 155 18 (tX13_in_11) :=
  zZ (pc := 18) h hm (Nat.le_refl _) dX13_in_18
set_option maxRecDepth 20000 in
theorem lX13_in_11 (s0 : Int32) (m : qM) : tX13_in_11 [none, none, none, none, none, none] [(.int s0)] m = fX13_in_11 s0 m := rfl
theorem bX13_in_11 {C : qCx} {w : qWp} (h : qOk C w RX13 cX13_in 6 0 155 155) (hm : qMt C (some .boolean)) (hx : qNx C) : qSnd C w 6 155 (qQf C w 155 155 jI) qfin 155 18 (wX13_in_11 fX13_in_11) :=
  qSnd_of (fun lo st m x hr0 => by
    unfold wX13_in_11 at hr0
    split at hr0
    · exact ⟨_, (qsub_n (qsub_n (qsub_n (qsub_n (qsub_n (qsub_n qsub_nil)))))), (lX13_in_11 _ _).trans hr0⟩
    · cases hr0) (sX13_in_11 h hm hx)
noncomputable def tX13_in_10 (j11 : qT (Int32 × qM)) : qT (Int32 × qM) :=
  oC (.int (0 : Int32)) (j11)
noncomputable def wX13_in_10 (k : qM → Option (Int32 × qM)) : qT (Int32 × qM) := fun lo st m => match lo, st with
  | [_, _, _, _, _, _], [] => k m
  | _, _ => none
set_option maxRecDepth 20000 in
theorem sX13_in_10 {C : qCx} {w : qWp} (h : qOk C w RX13 cX13_in 6 0 155 155) (hm : qMt C (some .boolean)) (hx : qNx C) {j11 : qT (Int32 × qM)} (k11 : qSnd C w 6 155 (qQf C w 155 155 jI) qfin 155 18 j11) : qSnd C w 6 155 (qQf C w 155 155 jI) qfin 155 17 (tX13_in_10 j11) :=
  cC (pc := 17) h dX13_in_17 rfl (k11)
set_option maxRecDepth 20000 in
theorem lX13_in_10 (m : qM) : tX13_in_10 (wX13_in_11 fX13_in_11) [none, none, none, none, none, none] [] m = fX13_in_10 m := rfl
theorem bX13_in_10 {C : qCx} {w : qWp} (h : qOk C w RX13 cX13_in 6 0 155 155) (hm : qMt C (some .boolean)) (hx : qNx C) : qSnd C w 6 155 (qQf C w 155 155 jI) qfin 155 17 (wX13_in_10 fX13_in_10) :=
  qSnd_of (fun lo st m x hr0 => by
    unfold wX13_in_10 at hr0
    split at hr0
    · exact ⟨_, (qsub_n (qsub_n (qsub_n (qsub_n (qsub_n (qsub_n qsub_nil)))))), (lX13_in_10 _).trans hr0⟩
    · cases hr0) (sX13_in_10 h hm hx (bX13_in_11 h hm hx))
noncomputable def tX13_in_0 (j10 : qT (Int32 × qM)) (j11 : qT (Int32 × qM)) : qT (Int32 × qM) :=
  oLl 0 (oLl 2 (oLcmp (oLt (j10) (oLl 0 (oLl 4 (oLcmp (oGt (j10) (oC (.int (1 : Int32)) (j11)))))))))
set_option maxRecDepth 20000 in
theorem sX13_in_0 {C : qCx} {w : qWp} (h : qOk C w RX13 cX13_in 6 0 155 155) (hm : qMt C (some .boolean)) (hx : qNx C) {j10 : qT (Int32 × qM)} {j11 : qT (Int32 × qM)} (k10 : qSnd C w 6 155 (qQf C w 155 155 jI) qfin 155 17 j10) (k11 : qSnd C w 6 155 (qQf C w 155 155 jI) qfin 155 18 j11) : qSnd C w 6 155 (qQf C w 155 155 jI) qfin 155 0 (tX13_in_0 j10 j11) :=
  cLl (pc := 0) h dX13_in_0 rfl (cLl (pc := 1) h dX13_in_1 rfl (aLcmp (pc := 2) h dX13_in_2 (jLt (pc := 3) h dX13_in_3 rfl (k10) (cLl (pc := 6) h dX13_in_6 rfl (cLL (pc := 7) h dX13_in_7 (aLcmp (pc := 9) h dX13_in_9 (jGt (pc := 10) h dX13_in_10 rfl (k10) (cC (pc := 13) h dX13_in_13 rfl (jGo (pc := 14) h dX13_in_14 rfl (k11))))))))))
set_option maxRecDepth 20000 in
theorem lX13_in_0 (a0 : Int64) (a1 : Int64) (a2 : Int64) (m : qM) : tX13_in_0 (wX13_in_10 fX13_in_10) (wX13_in_11 fX13_in_11) [some (.long a0), none, some (.long a1), none, some (.long a2), none] [] m = fX13_in_0 a0 a1 a2 m := rfl
noncomputable def GX13_in : qG Int32 := fun av m => match av with
  | [.long a0, .long a1, .long a2] => fX13_in a0 a1 a2 m
  | _ => none
theorem spX13_in : qSpI yX13_in (.code yX13_in cX13_in 6 (some .boolean)) 0 qfin 155 155 0 GX13_in := by
  intro av m x m' hG
  unfold GX13_in at hG
  split at hG
  · rename_i a0 a1 a2
    rw [fX13_in_d] at hG
    exact ⟨qmeet (J := jI) (r := (x, m')) (av := [.long a0, .long a1, .long a2]) (by decide +kernel) (Nat.le_of_ble_eq_true rfl) (fun C w h hm hx hn => sX13_in_0 h hm hx (bX13_in_10 h hm hx) (bX13_in_11 h hm hx)) ((lX13_in_0 _ _ _ _).trans hG) (Nat.le_of_ble_eq_true rfl), trivial⟩
  · cases hG
theorem mf_X13_3 : Jvm.Cond.fieldLink RX13 3 (qTb 13 18).1 (qTb 13 18).2.1 (qTb 13 18).2.2.1 ∈ qTw := qm6 (List.mem_of_getElem? (i := 236) (by decide +kernel)) (by decide +kernel)
theorem ff_X13_3_98 : qFd RX13 3 98 13 18 0 := ⟨mf_X13_3, rfl, by decide, rfl⟩
theorem mf_X13_7 : Jvm.Cond.fieldLink RX13 7 (qTb 13 14).1 (qTb 13 14).2.1 (qTb 13 14).2.2.1 ∈ qTw := qm6 (List.mem_of_getElem? (i := 232) (by decide +kernel)) (by decide +kernel)
theorem ff_X13_7_98 : qFd RX13 7 98 13 14 0 := ⟨mf_X13_7, rfl, by decide, rfl⟩
theorem mf_X13_10 : Jvm.Cond.fieldLink RX13 10 (qTb 13 19).1 (qTb 13 19).2.1 (qTb 13 19).2.2.1 ∈ qTw := qm6 (List.mem_of_getElem? (i := 237) (by decide +kernel)) (by decide +kernel)
theorem ff_X13_10_98 : qFd RX13 10 98 13 19 0 := ⟨mf_X13_10, rfl, by decide, rfl⟩
theorem mf_X13_13 : Jvm.Cond.fieldLink RX13 13 (qTb 13 10).1 (qTb 13 10).2.1 (qTb 13 10).2.2.1 ∈ qTw := qm6 (List.mem_of_getElem? (i := 228) (by decide +kernel)) (by decide +kernel)
theorem ff_X13_13_98 : qFd RX13 13 98 13 10 3 := ⟨mf_X13_13, rfl, by decide, rfl⟩
theorem dX13_wrong_0 : decode cX13_wrong 0 = .ok (.aload_n 0, 1) := by decide +kernel
theorem dX13_wrong_1 : decode cX13_wrong 1 = .ok (.iload_n 1, 1) := by decide +kernel
theorem dX13_wrong_2 : decode cX13_wrong 2 = .ok (.putfield 3, 3) := by decide +kernel
theorem dX13_wrong_5 : decode cX13_wrong 5 = .ok (.aload_n 0, 1) := by decide +kernel
theorem dX13_wrong_6 : decode cX13_wrong 6 = .ok (.aload_n 0, 1) := by decide +kernel
theorem dX13_wrong_7 : decode cX13_wrong 7 = .ok (.getfield 7, 3) := by decide +kernel
theorem dX13_wrong_10 : decode cX13_wrong 10 = .ok (.putfield 10, 3) := by decide +kernel
theorem dX13_wrong_13 : decode cX13_wrong 13 = .ok (.aload_n 0, 1) := by decide +kernel
theorem dX13_wrong_14 : decode cX13_wrong 14 = .ok (.getfield 13, 3) := by decide +kernel
theorem dX13_wrong_17 : decode cX13_wrong 17 = .ok (.areturn, 1) := by decide +kernel
noncomputable def tX13_wrong_0 : qT (Option Nat × qM) :=
  oLa 0 (oLi 1 (oPi 98 18 (oLa 0 (oLa 0 (oGi 98 14 (oPi 98 19 (oLa 0 (oGf 98 10 109 (eR)))))))))
set_option maxRecDepth 20000 in
theorem sX13_wrong_0 {C : qCx} {w : qWp} (h : qOk C w RX13 cX13_wrong 2 0 155 155) (hm : qMt C (some (.object "ParentEveModel$Stop"))) (hx : qNx C) : qSnd C w 2 155 (qQf C w 155 155 jR) qfin 155 0 (tX13_wrong_0) :=
  cLa (pc := 0) h dX13_wrong_0 rfl (cLi (pc := 1) h dX13_wrong_1 rfl (gPi (pc := 2) h dX13_wrong_2 ff_X13_3_98 (Or.inl rfl) (Nat.le_of_ble_eq_true rfl) (Nat.le_of_ble_eq_true rfl) (cLa (pc := 5) h dX13_wrong_5 rfl (cLa (pc := 6) h dX13_wrong_6 rfl (gGi (pc := 7) h dX13_wrong_7 ff_X13_7_98 (Nat.le_of_ble_eq_true rfl) (Nat.le_of_ble_eq_true rfl) (gPi (pc := 10) h dX13_wrong_10 ff_X13_10_98 (Or.inl rfl) (Nat.le_of_ble_eq_true rfl) (Nat.le_of_ble_eq_true rfl) (cLa (pc := 13) h dX13_wrong_13 rfl (gGf (pc := 14) h dX13_wrong_14 ff_X13_13_98 (Nat.le_of_ble_eq_true rfl) (Nat.le_of_ble_eq_true rfl) rfl (zR (pc := 17) h hm (Nat.le_refl _) dX13_wrong_17)))))))))
set_option maxRecDepth 20000 in
theorem lX13_wrong_0 (a1 : Int32) (m : qM) : tX13_wrong_0 [some (.ref 98), some (.int a1)] [] m = fX13_wrong_0 a1 m := rfl
noncomputable def GX13_wrong : qG (Option Nat) := fun av m => match av with
  | [.ref 98, .int a1] => fX13_wrong a1 m
  | _ => none
theorem spX13_wrong : qSpR yX13_wrong (.code yX13_wrong cX13_wrong 2 (some (.object "ParentEveModel$Stop"))) 0 qfin 155 155 1 GX13_wrong := by
  intro av m x m' hG
  unfold GX13_wrong at hG
  split at hG
  · rename_i a1
    rw [fX13_wrong_d] at hG
    exact ⟨qmeet (J := jR) (r := (x, m')) (av := [.ref 98, .int a1]) (by decide +kernel) (Nat.le_of_ble_eq_true rfl) (fun C w h hm hx hn => sX13_wrong_0 h hm hx) ((lX13_wrong_0 _ _).trans hG) (Nat.le_of_ble_eq_true rfl), Or.inl ⟨98, _, 13, _, _, rfl, by decide, rfl, qCk_13, rfl⟩⟩
  · cases hG
theorem mf_X13_17 : Jvm.Cond.fieldLink RX13 17 (qTb 13 13).1 (qTb 13 13).2.1 (qTb 13 13).2.2.1 ∈ qTw := qm6 (List.mem_of_getElem? (i := 231) (by decide +kernel)) (by decide +kernel)
theorem ff_X13_17_98 : qFd RX13 17 98 13 13 0 := ⟨mf_X13_17, rfl, by decide, rfl⟩
theorem mf_X13_20 : Jvm.Cond.fieldLink RX13 20 (qTb 13 11).1 (qTb 13 11).2.1 (qTb 13 11).2.2.1 ∈ qTw := qm6 (List.mem_of_getElem? (i := 229) (by decide +kernel)) (by decide +kernel)
theorem ff_X13_20_98 : qFd RX13 20 98 13 11 3 := ⟨mf_X13_20, rfl, by decide, rfl⟩
theorem dX13_byteAt_0 : decode cX13_byteAt 0 = .ok (.iload_n 1, 1) := by decide +kernel
theorem dX13_byteAt_1 : decode cX13_byteAt 1 = .ok (.aload_n 0, 1) := by decide +kernel
theorem dX13_byteAt_2 : decode cX13_byteAt 2 = .ok (.getfield 17, 3) := by decide +kernel
theorem dX13_byteAt_5 : decode cX13_byteAt 5 = .ok (.if_icmp .ge 16, 3) := by decide +kernel
theorem dX13_byteAt_8 : decode cX13_byteAt 8 = .ok (.aload_n 0, 1) := by decide +kernel
theorem dX13_byteAt_9 : decode cX13_byteAt 9 = .ok (.getfield 20, 3) := by decide +kernel
theorem dX13_byteAt_12 : decode cX13_byteAt 12 = .ok (.iload_n 1, 1) := by decide +kernel
theorem dX13_byteAt_13 : decode cX13_byteAt 13 = .ok (.baload, 1) := by decide +kernel
theorem dX13_byteAt_14 : decode cX13_byteAt 14 = .ok (.sipush 255, 3) := by decide +kernel
theorem dX13_byteAt_17 : decode cX13_byteAt 17 = .ok (.iand, 1) := by decide +kernel
theorem dX13_byteAt_18 : decode cX13_byteAt 18 = .ok (.goto 4, 3) := by decide +kernel
theorem dX13_byteAt_21 : decode cX13_byteAt 21 = .ok (.iconst 0, 1) := by decide +kernel
theorem dX13_byteAt_22 : decode cX13_byteAt 22 = .ok (.ireturn, 1) := by decide +kernel
noncomputable def tX13_byteAt_12 : qT (Int32 × qM) :=
  eI
noncomputable def wX13_byteAt_12 (k : Int32 → qM → Option (Int32 × qM)) : qT (Int32 × qM) := fun lo st m => match lo, st with
  | [_, _], [.int s0] => k s0 m
  | _, _ => none
set_option maxRecDepth 20000 in
theorem sX13_byteAt_12 {C : qCx} {w : qWp} (h : qOk C w RX13 cX13_byteAt 2 0 155 155) (hm : qMt C (some .int)) (hx : qNx C) : qSnd C w 2 155 (qQf C w 155 155 jI) qfin 155 22 (tX13_byteAt_12) :=
  zI (pc := 22) h hm (Nat.le_refl _) dX13_byteAt_22
set_option maxRecDepth 20000 in
theorem lX13_byteAt_12 (s0 : Int32) (m : qM) : tX13_byteAt_12 [none, none] [(.int s0)] m = fX13_byteAt_12 s0 m := rfl
theorem bX13_byteAt_12 {C : qCx} {w : qWp} (h : qOk C w RX13 cX13_byteAt 2 0 155 155) (hm : qMt C (some .int)) (hx : qNx C) : qSnd C w 2 155 (qQf C w 155 155 jI) qfin 155 22 (wX13_byteAt_12 fX13_byteAt_12) :=
  qSnd_of (fun lo st m x hr0 => by
    unfold wX13_byteAt_12 at hr0
    split at hr0
    · exact ⟨_, (qsub_n (qsub_n qsub_nil)), (lX13_byteAt_12 _ _).trans hr0⟩
    · cases hr0) (sX13_byteAt_12 h hm hx)
noncomputable def tX13_byteAt_0 (j12 : qT (Int32 × qM)) : qT (Int32 × qM) :=
  oLi 1 (oLa 0 (oGi 98 13 (oCGe (oC (.int (0 : Int32)) (j12)) (oLa 0 (oGf 98 11 110 (oLi 1 (oAi 110 400 (oC (.int (255 : Int32)) (o2 (· &&& ·) (j12))))))))))
set_option maxRecDepth 20000 in
theorem sX13_byteAt_0 {C : qCx} {w : qWp} (h : qOk C w RX13 cX13_byteAt 2 0 155 155) (hm : qMt C (some .int)) (hx : qNx C) {j12 : qT (Int32 × qM)} (k12 : qSnd C w 2 155 (qQf C w 155 155 jI) qfin 155 22 j12) : qSnd C w 2 155 (qQf C w 155 155 jI) qfin 155 0 (tX13_byteAt_0 j12) :=
  cLi (pc := 0) h dX13_byteAt_0 rfl (cLa (pc := 1) h dX13_byteAt_1 rfl (gGi (pc := 2) h dX13_byteAt_2 ff_X13_17_98 (Nat.le_of_ble_eq_true rfl) (Nat.le_of_ble_eq_true rfl) (jCGe (pc := 5) h dX13_byteAt_5 rfl (cC (pc := 21) h dX13_byteAt_21 rfl (k12)) (cLa (pc := 8) h dX13_byteAt_8 rfl (gGf (pc := 9) h dX13_byteAt_9 ff_X13_20_98 (Nat.le_of_ble_eq_true rfl) (Nat.le_of_ble_eq_true rfl) rfl (cLi (pc := 12) h dX13_byteAt_12 rfl (rAb (pc := 13) h dX13_byteAt_13 rfl (Nat.le_of_ble_eq_true rfl) (Nat.le_of_ble_eq_true rfl) (cS (pc := 14) h dX13_byteAt_14 rfl (aAnd (pc := 17) h dX13_byteAt_17 (jGo (pc := 18) h dX13_byteAt_18 rfl (k12)))))))))))
set_option maxRecDepth 20000 in
theorem lX13_byteAt_0 (a1 : Int32) (m : qM) : tX13_byteAt_0 (wX13_byteAt_12 fX13_byteAt_12) [some (.ref 98), some (.int a1)] [] m = fX13_byteAt_0 a1 m := rfl
noncomputable def GX13_byteAt : qG Int32 := fun av m => match av with
  | [.ref 98, .int a1] => fX13_byteAt a1 m
  | _ => none
theorem spX13_byteAt : qSpI yX13_byteAt (.code yX13_byteAt cX13_byteAt 2 (some .int)) 0 qfin 155 155 1 GX13_byteAt := by
  intro av m x m' hG
  unfold GX13_byteAt at hG
  split at hG
  · rename_i a1
    rw [fX13_byteAt_d] at hG
    exact ⟨qmeet (J := jI) (r := (x, m')) (av := [.ref 98, .int a1]) (by decide +kernel) (Nat.le_of_ble_eq_true rfl) (fun C w h hm hx hn => sX13_byteAt_0 h hm hx (bX13_byteAt_12 h hm hx)) ((lX13_byteAt_0 _ _).trans hG) (Nat.le_of_ble_eq_true rfl), Or.inl ⟨98, _, 13, _, _, rfl, by decide, rfl, qCk_13, rfl⟩⟩
  · cases hG
theorem dX13_isSmall_0 : decode cX13_isSmall 0 = .ok (.iload_n 0, 1) := by decide +kernel
theorem dX13_isSmall_1 : decode cX13_isSmall 1 = .ok (.bipush 97, 2) := by decide +kernel
theorem dX13_isSmall_3 : decode cX13_isSmall 3 = .ok (.if_icmp .lt 13, 3) := by decide +kernel
theorem dX13_isSmall_6 : decode cX13_isSmall 6 = .ok (.iload_n 0, 1) := by decide +kernel
theorem dX13_isSmall_7 : decode cX13_isSmall 7 = .ok (.bipush 122, 2) := by decide +kernel
theorem dX13_isSmall_9 : decode cX13_isSmall 9 = .ok (.if_icmp .gt 7, 3) := by decide +kernel
theorem dX13_isSmall_12 : decode cX13_isSmall 12 = .ok (.iconst 1, 1) := by decide +kernel
theorem dX13_isSmall_13 : decode cX13_isSmall 13 = .ok (.goto 4, 3) := by decide +kernel
theorem dX13_isSmall_16 : decode cX13_isSmall 16 = .ok (.iconst 0, 1) := by decide +kernel
theorem dX13_isSmall_17 : decode cX13_isSmall 17 = .ok (.ireturn, 1) := by decide +kernel
noncomputable def tX13_isSmall_9 : qT (Int32 × qM) :=
  eZ
noncomputable def wX13_isSmall_9 (k : Int32 → qM → Option (Int32 × qM)) : qT (Int32 × qM) := fun lo st m => match lo, st with
  | [_], [.int s0] => k s0 m
  | _, _ => none
set_option maxRecDepth 20000 in
theorem sX13_isSmall_9 {C : qCx} {w : qWp} (h : qOk C w RX13 cX13_isSmall 1 0 155 155) (hm : qMt C (some .boolean)) (hx : qNx C) : qSnd C w 1 155 (qQf C w 155 155 jI) qfin 155 17 (tX13_isSmall_9) :=
  zZ (pc := 17) h hm (Nat.le_refl _) dX13_isSmall_17
set_option maxRecDepth 20000 in
theorem lX13_isSmall_9 (s0 : Int32) (m : qM) : tX13_isSmall_9 [none] [(.int s0)] m = fX13_isSmall_9 s0 m := rfl
theorem bX13_isSmall_9 {C : qCx} {w : qWp} (h : qOk C w RX13 cX13_isSmall 1 0 155 155) (hm : qMt C (some .boolean)) (hx : qNx C) : qSnd C w 1 155 (qQf C w 155 155 jI) qfin 155 17 (wX13_isSmall_9 fX13_isSmall_9) :=
  qSnd_of (fun lo st m x hr0 => by
    unfold wX13_isSmall_9 at hr0
    split at hr0
    · exact ⟨_, (qsub_n qsub_nil), (lX13_isSmall_9 _ _).trans hr0⟩
    · cases hr0) (sX13_isSmall_9 h hm hx)
noncomputable def tX13_isSmall_8 (j9 : qT (Int32 × qM)) : qT (Int32 × qM) :=
  oC (.int (0 : Int32)) (j9)
noncomputable def wX13_isSmall_8 (k : qM → Option (Int32 × qM)) : qT (Int32 × qM) := fun lo st m => match lo, st with
  | [_], [] => k m
  | _, _ => none
set_option maxRecDepth 20000 in
theorem sX13_isSmall_8 {C : qCx} {w : qWp} (h : qOk C w RX13 cX13_isSmall 1 0 155 155) (hm : qMt C (some .boolean)) (hx : qNx C) {j9 : qT (Int32 × qM)} (k9 : qSnd C w 1 155 (qQf C w 155 155 jI) qfin 155 17 j9) : qSnd C w 1 155 (qQf C w 155 155 jI) qfin 155 16 (tX13_isSmall_8 j9) :=
  cC (pc := 16) h dX13_isSmall_16 rfl (k9)
set_option maxRecDepth 20000 in
theorem lX13_isSmall_8 (m : qM) : tX13_isSmall_8 (wX13_isSmall_9 fX13_isSmall_9) [none] [] m = fX13_isSmall_8 m := rfl
theorem bX13_isSmall_8 {C : qCx} {w : qWp} (h : qOk C w RX13 cX13_isSmall 1 0 155 155) (hm : qMt C (some .boolean)) (hx : qNx C) : qSnd C w 1 155 (qQf C w 155 155 jI) qfin 155 16 (wX13_isSmall_8 fX13_isSmall_8) :=
  qSnd_of (fun lo st m x hr0 => by
    unfold wX13_isSmall_8 at hr0
    split at hr0
    · exact ⟨_, (qsub_n qsub_nil), (lX13_isSmall_8 _).trans hr0⟩
    · cases hr0) (sX13_isSmall_8 h hm hx (bX13_isSmall_9 h hm hx))
noncomputable def tX13_isSmall_0 (j8 : qT (Int32 × qM)) (j9 : qT (Int32 × qM)) : qT (Int32 × qM) :=
  oLi 0 (oC (.int (97 : Int32)) (oCLt (j8) (oLi 0 (oC (.int (122 : Int32)) (oCGt (j8) (oC (.int (1 : Int32)) (j9)))))))
set_option maxRecDepth 20000 in
theorem sX13_isSmall_0 {C : qCx} {w : qWp} (h : qOk C w RX13 cX13_isSmall 1 0 155 155) (hm : qMt C (some .boolean)) (hx : qNx C) {j8 : qT (Int32 × qM)} {j9 : qT (Int32 × qM)} (k8 : qSnd C w 1 155 (qQf C w 155 155 jI) qfin 155 16 j8) (k9 : qSnd C w 1 155 (qQf C w 155 155 jI) qfin 155 17 j9) : qSnd C w 1 155 (qQf C w 155 155 jI) qfin 155 0 (tX13_isSmall_0 j8 j9) :=
  cLi (pc := 0) h dX13_isSmall_0 rfl (cB (pc := 1) h dX13_isSmall_1 rfl (jCLt (pc := 3) h dX13_isSmall_3 rfl (k8) (cLi (pc := 6) h dX13_isSmall_6 rfl (cB (pc := 7) h dX13_isSmall_7 rfl (jCGt (pc := 9) h dX13_isSmall_9 rfl (k8) (cC (pc := 12) h dX13_isSmall_12 rfl (jGo (pc := 13) h dX13_isSmall_13 rfl (k9))))))))
set_option maxRecDepth 20000 in
theorem lX13_isSmall_0 (a0 : Int32) (m : qM) : tX13_isSmall_0 (wX13_isSmall_8 fX13_isSmall_8) (wX13_isSmall_9 fX13_isSmall_9) [some (.int a0)] [] m = fX13_isSmall_0 a0 m := rfl
noncomputable def GX13_isSmall : qG Int32 := fun av m => match av with
  | [.int a0] => fX13_isSmall a0 m
  | _ => none
theorem spX13_isSmall : qSpI yX13_isSmall (.code yX13_isSmall cX13_isSmall 1 (some .boolean)) 0 qfin 155 155 0 GX13_isSmall := by
  intro av m x m' hG
  unfold GX13_isSmall at hG
  split at hG
  · rename_i a0
    rw [fX13_isSmall_d] at hG
    exact ⟨qmeet (J := jI) (r := (x, m')) (av := [.int a0]) (by decide +kernel) (Nat.le_of_ble_eq_true rfl) (fun C w h hm hx hn => sX13_isSmall_0 h hm hx (bX13_isSmall_8 h hm hx) (bX13_isSmall_9 h hm hx)) ((lX13_isSmall_0 _ _).trans hG) (Nat.le_of_ble_eq_true rfl), trivial⟩
  · cases hG
theorem dX13_isDigit_0 : decode cX13_isDigit 0 = .ok (.iload_n 0, 1) := by decide +kernel
theorem dX13_isDigit_1 : decode cX13_isDigit 1 = .ok (.bipush 48, 2) := by decide +kernel
theorem dX13_isDigit_3 : decode cX13_isDigit 3 = .ok (.if_icmp .lt 13, 3) := by decide +kernel
theorem dX13_isDigit_6 : decode cX13_isDigit 6 = .ok (.iload_n 0, 1) := by decide +kernel
theorem dX13_isDigit_7 : decode cX13_isDigit 7 = .ok (.bipush 57, 2) := by decide +kernel
theorem dX13_isDigit_9 : decode cX13_isDigit 9 = .ok (.if_icmp .gt 7, 3) := by decide +kernel
theorem dX13_isDigit_12 : decode cX13_isDigit 12 = .ok (.iconst 1, 1) := by decide +kernel
theorem dX13_isDigit_13 : decode cX13_isDigit 13 = .ok (.goto 4, 3) := by decide +kernel
theorem dX13_isDigit_16 : decode cX13_isDigit 16 = .ok (.iconst 0, 1) := by decide +kernel
theorem dX13_isDigit_17 : decode cX13_isDigit 17 = .ok (.ireturn, 1) := by decide +kernel
noncomputable def tX13_isDigit_9 : qT (Int32 × qM) :=
  eZ
noncomputable def wX13_isDigit_9 (k : Int32 → qM → Option (Int32 × qM)) : qT (Int32 × qM) := fun lo st m => match lo, st with
  | [_], [.int s0] => k s0 m
  | _, _ => none
set_option maxRecDepth 20000 in
theorem sX13_isDigit_9 {C : qCx} {w : qWp} (h : qOk C w RX13 cX13_isDigit 1 0 155 155) (hm : qMt C (some .boolean)) (hx : qNx C) : qSnd C w 1 155 (qQf C w 155 155 jI) qfin 155 17 (tX13_isDigit_9) :=
  zZ (pc := 17) h hm (Nat.le_refl _) dX13_isDigit_17
set_option maxRecDepth 20000 in
theorem lX13_isDigit_9 (s0 : Int32) (m : qM) : tX13_isDigit_9 [none] [(.int s0)] m = fX13_isDigit_9 s0 m := rfl
theorem bX13_isDigit_9 {C : qCx} {w : qWp} (h : qOk C w RX13 cX13_isDigit 1 0 155 155) (hm : qMt C (some .boolean)) (hx : qNx C) : qSnd C w 1 155 (qQf C w 155 155 jI) qfin 155 17 (wX13_isDigit_9 fX13_isDigit_9) :=
  qSnd_of (fun lo st m x hr0 => by
    unfold wX13_isDigit_9 at hr0
    split at hr0
    · exact ⟨_, (qsub_n qsub_nil), (lX13_isDigit_9 _ _).trans hr0⟩
    · cases hr0) (sX13_isDigit_9 h hm hx)
noncomputable def tX13_isDigit_8 (j9 : qT (Int32 × qM)) : qT (Int32 × qM) :=
  oC (.int (0 : Int32)) (j9)
noncomputable def wX13_isDigit_8 (k : qM → Option (Int32 × qM)) : qT (Int32 × qM) := fun lo st m => match lo, st with
  | [_], [] => k m
  | _, _ => none
set_option maxRecDepth 20000 in
theorem sX13_isDigit_8 {C : qCx} {w : qWp} (h : qOk C w RX13 cX13_isDigit 1 0 155 155) (hm : qMt C (some .boolean)) (hx : qNx C) {j9 : qT (Int32 × qM)} (k9 : qSnd C w 1 155 (qQf C w 155 155 jI) qfin 155 17 j9) : qSnd C w 1 155 (qQf C w 155 155 jI) qfin 155 16 (tX13_isDigit_8 j9) :=
  cC (pc := 16) h dX13_isDigit_16 rfl (k9)
set_option maxRecDepth 20000 in
theorem lX13_isDigit_8 (m : qM) : tX13_isDigit_8 (wX13_isDigit_9 fX13_isDigit_9) [none] [] m = fX13_isDigit_8 m := rfl
theorem bX13_isDigit_8 {C : qCx} {w : qWp} (h : qOk C w RX13 cX13_isDigit 1 0 155 155) (hm : qMt C (some .boolean)) (hx : qNx C) : qSnd C w 1 155 (qQf C w 155 155 jI) qfin 155 16 (wX13_isDigit_8 fX13_isDigit_8) :=
  qSnd_of (fun lo st m x hr0 => by
    unfold wX13_isDigit_8 at hr0
    split at hr0
    · exact ⟨_, (qsub_n qsub_nil), (lX13_isDigit_8 _).trans hr0⟩
    · cases hr0) (sX13_isDigit_8 h hm hx (bX13_isDigit_9 h hm hx))
noncomputable def tX13_isDigit_0 (j8 : qT (Int32 × qM)) (j9 : qT (Int32 × qM)) : qT (Int32 × qM) :=
  oLi 0 (oC (.int (48 : Int32)) (oCLt (j8) (oLi 0 (oC (.int (57 : Int32)) (oCGt (j8) (oC (.int (1 : Int32)) (j9)))))))
set_option maxRecDepth 20000 in
theorem sX13_isDigit_0 {C : qCx} {w : qWp} (h : qOk C w RX13 cX13_isDigit 1 0 155 155) (hm : qMt C (some .boolean)) (hx : qNx C) {j8 : qT (Int32 × qM)} {j9 : qT (Int32 × qM)} (k8 : qSnd C w 1 155 (qQf C w 155 155 jI) qfin 155 16 j8) (k9 : qSnd C w 1 155 (qQf C w 155 155 jI) qfin 155 17 j9) : qSnd C w 1 155 (qQf C w 155 155 jI) qfin 155 0 (tX13_isDigit_0 j8 j9) :=
  cLi (pc := 0) h dX13_isDigit_0 rfl (cB (pc := 1) h dX13_isDigit_1 rfl (jCLt (pc := 3) h dX13_isDigit_3 rfl (k8) (cLi (pc := 6) h dX13_isDigit_6 rfl (cB (pc := 7) h dX13_isDigit_7 rfl (jCGt (pc := 9) h dX13_isDigit_9 rfl (k8) (cC (pc := 12) h dX13_isDigit_12 rfl (jGo (pc := 13) h dX13_isDigit_13 rfl (k9))))))))
set_option maxRecDepth 20000 in
theorem lX13_isDigit_0 (a0 : Int32) (m : qM) : tX13_isDigit_0 (wX13_isDigit_8 fX13_isDigit_8) (wX13_isDigit_9 fX13_isDigit_9) [some (.int a0)] [] m = fX13_isDigit_0 a0 m := rfl
noncomputable def GX13_isDigit : qG Int32 := fun av m => match av with
  | [.int a0] => fX13_isDigit a0 m
  | _ => none
theorem spX13_isDigit : qSpI yX13_isDigit (.code yX13_isDigit cX13_isDigit 1 (some .boolean)) 0 qfin 155 155 0 GX13_isDigit := by
  intro av m x m' hG
  unfold GX13_isDigit at hG
  split at hG
  · rename_i a0
    rw [fX13_isDigit_d] at hG
    exact ⟨qmeet (J := jI) (r := (x, m')) (av := [.int a0]) (by decide +kernel) (Nat.le_of_ble_eq_true rfl) (fun C w h hm hx hn => sX13_isDigit_0 h hm hx (bX13_isDigit_8 h hm hx) (bX13_isDigit_9 h hm hx)) ((lX13_isDigit_0 _ _).trans hG) (Nat.le_of_ble_eq_true rfl), trivial⟩
  · cases hG

